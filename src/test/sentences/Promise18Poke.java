final class Promise18Poke {
    private Promise18Poke() {
    }

    static void run() {
        Document promise = Document.part("Promise 18: poke");
        promise.says("A word is xored with a mask", Promise18Poke::xors);
        promise.says("A word is xored with a mask", Promise18Poke::thatWordAlone);
        promise.says("A word is xored with a mask", Promise18Poke::failedOrOff);
        promise.says("(no step).", Promise18Poke::noStep);
        promise.says("IllegalArgumentException: there is no such page", Promise18Poke::noSuchPage);
        promise.says("or word.", Promise18Poke::noSuchWord);
    }

    private static void xors() {
        WeighRecorder x = new WeighRecorder();
        x.poke(31, 15, 0x0F0F0F0F);
        Expect.is("some bits", x.word(31, 15), 0xF0F0F0F0);
        x.poke(31, 15, 0);
        Expect.is("none", x.word(31, 15), 0xF0F0F0F0);
        x.poke(31, 15, -1);
        Expect.is("all", x.word(31, 15), 0x0F0F0F0F);
        x.poke(31, 15, Chips.LEAST);
        Expect.is("the uppermost", x.word(31, 15), 0x8F0F0F0F);
        x.poke(31, 15, 0x8F0F0F0F ^ -1);
        Expect.is("back to free", x.word(31, 15), -1);
    }

    private static void thatWordAlone() {
        WeighRecorder x = new WeighRecorder();
        x.poke(0, 0, 1);
        x.poke(7, 15, 2);
        x.poke(8, 0, 4);
        x.poke(31, 15, 8);
        int others = 0;
        for (int page = 0; page < 31; page++) {
            for (int word = 0; word < 16; word++) {
                others += x.word(page, word) == -1 ? 0 : 1;
            }
        }
        Expect.is("words that are not -1 on the pages 0 to 30", others, 3);
        Expect.is("the first word", x.word(0, 0), -2);
        Expect.is("the last word of a block", x.word(7, 15), -3);
        Expect.is("the first word of the next one", x.word(8, 0), -5);
        Expect.is("the last word", x.word(31, 15), -9);
    }

    private static void failedOrOff() {
        WeighRecorder x = new WeighRecorder();
        x.failBlock(0);
        x.poke(0, 0, 5);
        Expect.is("in a failed block", x.word(0, 0), ~5);
        x.crash();
        x.poke(0, 0, 5);
        Expect.is("while off", x.word(0, 0), -1);
    }

    private static void noStep() {
        WeighRecorder x = Chips.tickets(1);
        x.cutAfter(16);
        for (int i = 0; i < 20; i++) {
            x.poke(9, 9, 1);
        }
        Expect.is("16 steps are left", x.sync(), 1);
        x.poke(9, 9, 1);
        Expect.is("power", x.state(8), 1);
    }

    private static void noSuchPage() {
        for (boolean on : new boolean[] {true, false}) {
            WeighRecorder x = Chips.threeTickets(on);
            for (int page : new int[] {-1, 32, Chips.LEAST, Chips.GREATEST}) {
                Chips.badArgument("poke(" + page + ", 0, 1)", x, () -> x.poke(page, 0, 1));
                Chips.badArgument("poke(" + page + ", 0, 0)", x, () -> x.poke(page, 0, 0));
            }
        }
    }

    private static void noSuchWord() {
        for (boolean on : new boolean[] {true, false}) {
            WeighRecorder x = Chips.threeTickets(on);
            for (int word : new int[] {-1, 16, Chips.LEAST, Chips.GREATEST}) {
                Chips.badArgument("poke(1, " + word + ", 1)", x, () -> x.poke(1, word, 1));
                Chips.badArgument("poke(32, " + word + ", 1)", x, () -> x.poke(32, word, 1));
            }
            Expect.is("neither the word ahead", x.word(0, 15), Chips.MARK);
            Expect.is("nor the one behind", x.word(2, 0), -1);
        }
    }
}
