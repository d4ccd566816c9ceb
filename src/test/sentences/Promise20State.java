final class Promise20State {
    private Promise20State() {
    }

    static void run() {
        Document promise = Document.part("Promise 20: state");
        promise.says("0 records", Promise20State::records);
        promise.says("1 durable ones", Promise20State::durable);
        promise.says("2 tickets", Promise20State::tickets);
        promise.says("3 live pages", Promise20State::livePages);
        promise.says("4 readings", Promise20State::readings);
        promise.says("5 the latest SERIAL (0: none)", Promise20State::latestSerial);
        promise.says("(all 0 while power is off)", Promise20State::allZeroWhileOff);
        promise.says("6 the cursor (-1 without, or while off)", Promise20State::cursor);
        promise.says("7 free pages of blocks that have not failed", Promise20State::freePages);
        promise.says("8 whether power is on", Promise20State::power);
        promise.says("-1 for others.", Promise20State::others);
    }

    private static void records() {
        WeighRecorder x = Chips.recorder();
        Expect.is("of an empty log", x.state(0), 0);
        for (int i = 1; i <= 24; i++) {
            Chips.weigh(x, i);
            Expect.is("with a ticket", x.state(0), 2 * i - 1);
            x.annul(i, 0);
            Expect.is("with a voiding", x.state(0), 2 * i);
        }
        Chips.weigh(x, 25);
        Expect.is("of a full log", x.state(0), 48);
    }

    private static void durable() {
        WeighRecorder x = Chips.recorder();
        int[] due = {0, 0, 3, 3, 3, 6};
        for (int i = 0; i < 6; i++) {
            Chips.weigh(x, i);
            Expect.is("with " + (i + 1), x.state(1), due[i]);
        }
        Chips.weigh(x, 7);
        x.sync();
        Expect.is("synced", x.state(1), 7);
        x.annul(1, 0);
        Expect.is("a voiding in the log alone", x.state(1), 7);
        x.mount();
        Expect.is("mounted", x.state(1), 7);
    }

    private static void tickets() {
        WeighRecorder x = Chips.recorder();
        Expect.is("of an empty log", x.state(2), 0);
        Chips.weigh(x, 1);
        x.annul(1, 0);
        Expect.is("a voided ticket is one", x.state(2), 1);
        x.axle(1);
        x.close(1, 0, 4, 0);
        Expect.is("a refused one is none", x.state(2), 1);
        Expect.is("48", Chips.tickets(48).state(2), 48);
    }

    private static void livePages() {
        WeighRecorder x = Chips.recorder();
        Expect.is("none", x.state(3), 0);
        Chips.weighAndSync(x, 1);
        Expect.is("leaf 0", x.state(3), 1);
        Chips.weighAndSync(x, 2);
        Expect.is("leaf 0 twice", x.state(3), 1);
        Chips.weigh(x, 3);
        Chips.weigh(x, 4);
        Expect.is("leaf 1 is not written", x.state(3), 1);
        x.sync();
        Expect.is("leaf 1", x.state(3), 2);
        Expect.is("16 leaves", Chips.tickets(48).state(3), 16);
    }

    private static void readings() {
        WeighRecorder x = Chips.recorder();
        for (int i = 0; i <= 9; i++) {
            Expect.is("readings", x.state(4), i);
            if (i < 9) {
                x.axle(1);
            }
        }
        x.close(1, 0, 3, 0);
        Expect.is("behind a ticket", x.state(4), 0);
        x.axle(1);
        x.mount();
        Expect.is("behind mount()", x.state(4), 0);
    }

    private static void latestSerial() {
        WeighRecorder x = Chips.recorder();
        Expect.is("none", x.state(5), 0);
        for (int i = 1; i <= 4; i++) {
            Chips.weighAndSync(x, i);
            Expect.is("latest", x.state(5), i);
        }
        Chips.weigh(x, 5);
        x.cutAfter(15);
        x.sync();
        x.mount();
        Expect.is("a page that was cut has none", x.state(5), 4);
        WeighRecorder y = Chips.tickets(3);
        y.poke(0, 15, 1);
        y.mount();
        Expect.is("no right page", y.state(5), 0);
    }

    private static void allZeroWhileOff() {
        WeighRecorder x = Chips.tickets(5);
        x.sync();
        x.axle(1);
        Chips.states("on", x, 5, 5, 5, 2, 1, 2);
        x.crash();
        Chips.states("behind crash()", x, 0, 0, 0, 0, 0, 0);
        x.mount();
        Chips.states("mounted", x, 5, 5, 5, 2, 0, 2);
        x.axle(1);
        x.cutAfter(2);
        Expect.is("close", x.close(1, 0, 3, 0), -2);
        Chips.states("behind a cut", x, 0, 0, 0, 0, 0, 0);
    }

    private static void cursor() {
        WeighRecorder x = Chips.recorder();
        Expect.is("without", x.state(6), -1);
        x.mount();
        Expect.is("without, behind mount()", x.state(6), -1);
        Chips.weighAndSync(x, 1);
        Expect.is("the first block", x.state(6), 0);
        x.crash();
        Expect.is("while off", x.state(6), -1);
        x.mount();
        Expect.is("behind mount()", x.state(6), 0);
        x.failBlock(0);
        Expect.is("it failed", x.state(6), 0);
        WeighRecorder y = Chips.recorderWithBlocks(7);
        Chips.weighAndSync(y, 1);
        Expect.is("the last block", y.state(6), 7);
    }

    private static void freePages() {
        WeighRecorder x = Chips.recorder();
        Expect.is("all", x.state(7), 32);
        Chips.weighAndSync(x, 1);
        Expect.is("one is written", x.state(7), 31);
        x.poke(31, 7, 1);
        Expect.is("one is poked", x.state(7), 30);
        x.failBlock(0);
        Expect.is("a block with three failed", x.state(7), 27);
        x.failBlock(6);
        Expect.is("a block with four failed", x.state(7), 23);
        x.crash();
        Expect.is("while off", x.state(7), 23);
        x.poke(31, 7, 1);
        Expect.is("poked back while off", x.state(7), 24);
    }

    private static void power() {
        WeighRecorder x = Chips.tickets(1);
        Expect.is("at first", x.state(8), 1);
        x.crash();
        Expect.is("behind crash()", x.state(8), 0);
        x.mount();
        Expect.is("behind mount()", x.state(8), 1);
        Chips.weigh(x, 1);
        x.cutAfter(0);
        Expect.is("a cut is told", x.state(8), 1);
        x.sync();
        Expect.is("behind the cut", x.state(8), 0);
        Expect.is("behind being worn out", Chips.wornOut().state(8), 1);
    }

    private static void others() {
        WeighRecorder x = Chips.tickets(3);
        for (int round = 0; round < 2; round++) {
            for (int what : new int[] {-1, 9, 10, Chips.LEAST, Chips.GREATEST}) {
                Expect.is("state(" + what + ")", x.state(what), -1);
            }
            x.crash();
        }
    }
}
