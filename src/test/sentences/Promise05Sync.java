final class Promise05Sync {
    private Promise05Sync() {
    }

    static void run() {
        Document promise = Document.part("Promise 5: sync");
        promise.says("When not all records are durable", Promise05Sync::writesTheLastLeaf);
        promise.says("the last leaf is written: 1", Promise05Sync::writesTheLastOfAll);
        promise.says("(also when they are and nothing is written)", Promise05Sync::nothingToWrite);
        promise.says("-1, -2 likewise.", Promise05Sync::wornOut);
        promise.says("-1, -2 likewise.", Promise05Sync::powerWentOff);
        promise.says("IllegalStateException: power is off.", Promise05Sync::refusesWhileOff);
    }

    private static void writesTheLastLeaf() {
        WeighRecorder x = Chips.tickets(4);
        Chips.states("three are durable", x, 4, 3, 4, 1, 0, 1, 0, 31, 1);
        Expect.is("sync with one in its leaf", x.sync(), 1);
        Chips.states("all are", x, 4, 4, 4, 2, 0, 2, 0, 30, 1);
        Expect.is("that leaf alone was written", x.word(1, 0), 5);
        x.annul(1, 0);
        Expect.is("the voiding is not durable", x.state(1), 4);
        Expect.is("sync with two in its leaf", x.sync(), 1);
        Chips.states("all are", x, 5, 5, 4, 2, 0, 3, 0, 29, 1);
        Expect.is("that leaf alone was written", x.word(2, 0), 6);
        Expect.is("mount()", x.mount(), 4);
        Expect.is("the voiding is there", x.ticket(1, 5), 1);
    }

    private static void writesTheLastOfAll() {
        WeighRecorder x = Chips.tickets(46);
        Expect.is("sync with one in leaf 15", x.sync(), 1);
        Expect.is("its page", x.word(15, 0), 61);
        Chips.weigh(x, 47);
        Expect.is("sync with two in leaf 15", x.sync(), 1);
        Expect.is("its page", x.word(16, 0), 62);
        Expect.is("mount()", x.mount(), 47);
    }

    private static void nothingToWrite() {
        WeighRecorder x = Chips.recorder();
        Chips.answersAndDoesNothing("an empty log", x, 1, x::sync);
        Chips.weighAndSync(x, 1);
        Chips.answersAndDoesNothing("behind a sync", x, 1, x::sync);
        x.axle(1);
        Chips.answersAndDoesNothing("a reading is no record", x, 1, x::sync);
        x.close(1, 0, 3, 0);
        Chips.weigh(x, 3);
        Chips.answersAndDoesNothing("a full leaf", x, 1, x::sync);
        x.mount();
        Chips.answersAndDoesNothing("behind mount()", x, 1, x::sync);
        x.cutAfter(0);
        Chips.answersAndDoesNothing("a cut was told, but there is no step", x, 1, x::sync);
        Expect.is("two pages were written in all", x.state(7), 30);
    }

    private static void wornOut() {
        WeighRecorder x = Chips.recorderWithBlocks(0);
        for (int i = 1; i <= 4; i++) {
            Expect.is("sync", Chips.weighAndSync(x, i), 1);
        }
        Chips.weigh(x, 5);
        x.axle(3);
        Chips.answersAndDoesNothing("no page is left", x, -1, x::sync);
        Expect.is("four are durable", x.state(1), 4);
        Expect.is("five are there", x.state(0), 5);
    }

    private static void powerWentOff() {
        for (int n = 0; n <= 16; n++) {
            WeighRecorder x = Chips.tickets(1);
            x.cutAfter(n);
            Expect.is("sync cut after " + n, x.sync(), n < 16 ? -2 : 1);
            Expect.is("power", x.state(8), n < 16 ? 0 : 1);
            Expect.is("mount()", x.mount(), n < 16 ? 0 : 1);
        }
    }

    private static void refusesWhileOff() {
        WeighRecorder x = Chips.tickets(1);
        x.crash();
        Chips.badState("sync behind crash()", x, x::sync);
        Expect.is("nothing was written", x.mount(), 0);
        Chips.weigh(x, 1);
        x.cutAfter(3);
        x.sync();
        Chips.badState("sync behind a cut", x, x::sync);
        Expect.is("no word more", x.word(0, 3), -1);
    }
}
