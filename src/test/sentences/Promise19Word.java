final class Promise19Word {
    private Promise19Word() {
    }

    static void run() {
        Document promise = Document.part("Promise 19: word");
        promise.says("IndexOutOfBoundsException: there is no such page", Promise19Word::leastAndGreatest);
        promise.says("IndexOutOfBoundsException: there is no such page", Promise19Word::noSuchPage);
        promise.says("or word.", Promise19Word::noSuchWord);
    }

    private static void leastAndGreatest() {
        WeighRecorder x = Chips.tickets(3);
        x.poke(31, 15, 77);
        for (int round = 0; round < 2; round++) {
            Expect.is("the first word", x.word(0, 0), 3);
            Expect.is("the last word of the first page", x.word(0, 15), Chips.MARK);
            Expect.is("the first word of the last page", x.word(31, 0), -1);
            Expect.is("the last word", x.word(31, 15), ~77);
            x.crash();
        }
    }

    private static void noSuchPage() {
        for (boolean on : new boolean[] {true, false}) {
            WeighRecorder x = Chips.threeTickets(on);
            for (int page : new int[] {-1, 32, Chips.LEAST, Chips.GREATEST}) {
                Chips.badIndex("word(" + page + ", 0)", x, () -> x.word(page, 0));
            }
        }
    }

    private static void noSuchWord() {
        for (boolean on : new boolean[] {true, false}) {
            WeighRecorder x = Chips.threeTickets(on);
            for (int word : new int[] {-1, 16, Chips.LEAST, Chips.GREATEST}) {
                Chips.badIndex("word(1, " + word + ")", x, () -> x.word(1, word));
                Chips.badIndex("word(32, " + word + ")", x, () -> x.word(32, word));
            }
        }
    }
}
