final class Promise17FailBlock {
    private Promise17FailBlock() {
    }

    static void run() {
        Document promise = Document.part("Promise 17: failBlock");
        promise.says("A block fails from now on.", Promise17FailBlock::eachBlock);
        promise.says("A block fails from now on.", Promise17FailBlock::fromNowOn);
        promise.says("A block fails from now on.", Promise17FailBlock::twiceAndWhileOff);
        promise.says("IllegalArgumentException: there is none such.", Promise17FailBlock::refusesOthers);
    }

    private static void eachBlock() {
        for (int failing = 0; failing < 8; failing++) {
            WeighRecorder x = Chips.recorder();
            x.failBlock(failing);
            Expect.is("free pages without block " + failing, x.state(7), 28);
            for (int i = 0; i < 28; i++) {
                Chips.weighAndSync(x, i);
                Expect.is("the cursor is not block " + failing, x.state(6) == failing ? 1 : 0, 0);
            }
            for (int page = 4 * failing; page < 4 * failing + 4; page++) {
                Expect.is("page " + page, x.word(page, 0), -1);
            }
        }
    }

    private static void fromNowOn() {
        WeighRecorder x = Chips.recorder();
        Chips.weighAndSync(x, 1);
        Expect.is("written before", x.word(0, 0), 1);
        x.failBlock(0);
        Expect.is("what was written stays", x.word(0, 0), 1);
        Chips.weighAndSync(x, 2);
        Expect.is("not written any more", x.word(1, 0), -1);
        Expect.is("but another one", x.word(4, 0), 2);
        x.mount();
        Expect.is("behind mount() too", x.state(7), 27);
    }

    private static void twiceAndWhileOff() {
        WeighRecorder x = Chips.recorder();
        x.crash();
        x.failBlock(7);
        x.failBlock(7);
        Expect.is("free pages", x.state(7), 28);
        for (int block = 0; block < 8; block++) {
            x.failBlock(block);
        }
        Expect.is("free pages when all failed", x.state(7), 0);
        x.mount();
        Chips.weigh(x, 1);
        Expect.is("sync when all failed", x.sync(), -1);
    }

    private static void refusesOthers() {
        for (boolean on : new boolean[] {true, false}) {
            WeighRecorder x = Chips.threeTickets(on);
            for (int block : new int[] {-1, 8, Chips.LEAST, Chips.GREATEST}) {
                Chips.badArgument("failBlock(" + block + ")", x, () -> x.failBlock(block));
            }
        }
    }
}
