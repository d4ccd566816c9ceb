final class Promise16WearOf {
    private Promise16WearOf() {
    }

    static void run() {
        Document promise = Document.part("Promise 16: wearOf");
        promise.says("A block's wear.", Promise16WearOf::ofEachBlock);
        promise.says("A block's wear.", Promise16WearOf::whileOff);
        promise.says("IllegalArgumentException: there is no such block.", Promise16WearOf::refusesOthers);
    }

    /** A recorder in which a block was erased once, since it alone has not failed. */
    private static WeighRecorder erasedOnce(int block) {
        WeighRecorder x = Chips.recorderWithBlocks(block);
        Chips.spoil(x, 4 * block + 3);
        Chips.weighAndSync(x, 1);
        return x;
    }

    private static void ofEachBlock() {
        for (int erased = 0; erased < 8; erased++) {
            WeighRecorder x = erasedOnce(erased);
            for (int block = 0; block < 8; block++) {
                Expect.is("wearOf(" + block + "), block " + erased + " was erased", x.wearOf(block),
                        block == erased ? 1 : 0);
            }
        }
    }

    private static void whileOff() {
        WeighRecorder x = erasedOnce(7);
        x.crash();
        Expect.is("while off", x.wearOf(7), 1);
        x.failBlock(7);
        Expect.is("failed", x.wearOf(7), 1);
    }

    private static void refusesOthers() {
        for (boolean on : new boolean[] {true, false}) {
            WeighRecorder x = Chips.threeTickets(on);
            for (int block : new int[] {-1, 8, Chips.LEAST, Chips.GREATEST}) {
                Chips.badArgument("wearOf(" + block + ")", x, () -> x.wearOf(block));
            }
        }
    }
}
