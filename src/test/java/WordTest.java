/** Promises 18 to 20: poke, word, state. */
public final class WordTest {
    private static final int[] FAR = {Integer.MIN_VALUE, Integer.MAX_VALUE};

    public static void main(String[] args) {
        pokeIsXor();
        places();
        stateWhileOff();
        stateCounts();
        statesWithoutMeaning();
        freeByWords();
        Expect.end();
    }

    private static void pokeIsXor() {
        WeighRecorder x = Chips.recorder();
        x.poke(31, 15, 0x0F0F0F0F);
        Expect.is("xored", x.word(31, 15), ~0x0F0F0F0F);
        x.poke(31, 15, 0);
        Expect.is("with nothing", x.word(31, 15), ~0x0F0F0F0F);
        x.poke(31, 15, -1);
        Expect.is("with all", x.word(31, 15), 0x0F0F0F0F);
        Expect.is("no other word", x.word(31, 14), -1);
        Expect.is("no other page", x.word(30, 15), -1);
        x.crash();
        x.poke(0, 0, 5);
        Expect.is("while off", x.word(0, 0), ~5);
        x.failBlock(0);
        x.poke(0, 0, 5);
        Expect.is("in a failed block", x.word(0, 0), -1);
    }

    private static void places() {
        WeighRecorder x = Chips.recorder();
        for (int page : new int[] {-1, 32, FAR[0], FAR[1]}) {
            Expect.badArgument("poke(" + page + ", 0)", () -> x.poke(page, 0, 1));
            Expect.badIndex("word(" + page + ", 0)", () -> x.word(page, 0));
        }
        for (int word : new int[] {-1, 16, FAR[0], FAR[1]}) {
            Expect.badArgument("poke(1, " + word + ")", () -> x.poke(1, word, 1));
            Expect.badIndex("word(1, " + word + ")", () -> x.word(1, word));
        }
        for (int page = 0; page < 32; page++) {
            Expect.is("nothing was poked", x.word(page, 0) & x.word(page, 15), -1);
        }
        x.crash();
        Expect.badArgument("poke while off", () -> x.poke(32, 0, 1));
        Expect.badIndex("word while off", () -> x.word(0, 16));
    }

    private static void states(String what, WeighRecorder x, int... due) {
        for (int i = 0; i < due.length; i++) {
            Expect.is(what + ": state(" + i + ")", x.state(i), due[i]);
        }
    }

    private static void stateWhileOff() {
        WeighRecorder x = Chips.recorder();
        x.failBlock(7);
        for (int i = 1; i <= 4; i++) {
            Chips.weighAndSync(x, i);
        }
        x.axle(1);
        states("on", x, 4, 4, 4, 2, 1, 4, 0, 24, 1);
        x.crash();
        states("off", x, 0, 0, 0, 0, 0, 0, -1, 24, 0);
        x.mount();
        states("mounted", x, 4, 4, 4, 2, 0, 4, 0, 24, 1);
        Chips.weigh(x, 5);
        x.cutAfter(3);
        x.sync();
        states("cut", x, 0, 0, 0, 0, 0, 0, -1, 23, 0);
    }

    private static void stateCounts() {
        WeighRecorder x = Chips.recorder();
        Chips.weigh(x, 1);
        states("a ticket", x, 1, 0, 1, 0, 0, 0, -1, 32, 1);
        x.annul(1, 0);
        states("and a voiding", x, 2, 0, 1, 0, 0, 0, -1, 32, 1);
        x.sync();
        states("synced", x, 2, 2, 1, 1, 0, 1, 0, 31, 1);
        x.axle(4);
        x.axle(4);
        states("two readings", x, 2, 2, 1, 1, 2, 1, 0, 31, 1);
        x.close(1, 0, 3, 0);
        states("a full leaf", x, 3, 3, 2, 1, 0, 2, 0, 30, 1);
        Chips.weigh(x, 1);
        states("one more", x, 4, 3, 3, 1, 0, 2, 0, 30, 1);
        x.failBlock(0);
        states("its block failed", x, 4, 3, 3, 1, 0, 2, 0, 28, 1);
        x.sync();
        states("another block", x, 4, 4, 3, 2, 0, 3, 1, 27, 1);
    }

    private static void statesWithoutMeaning() {
        WeighRecorder x = Chips.recorder();
        for (int round = 0; round < 2; round++) {
            for (int what : new int[] {-1, 9, FAR[0], FAR[1]}) {
                Expect.is("state(" + what + ")", x.state(what), -1);
            }
            x.crash();
        }
    }

    /** A page is free by its words alone: a poke makes it free or not. */
    private static void freeByWords() {
        WeighRecorder x = Chips.recorder();
        x.poke(0, 15, 1);
        Expect.is("one word", x.state(7), 31);
        Chips.weighAndSync(x, 1);
        Expect.is("block 0 is not clean", x.state(6), 1);
        x.poke(5, 9, 1);
        Chips.weighAndSync(x, 2);
        Expect.is("page 5 is not free", x.word(6, 0), 2);
        x.poke(5, 9, 1);
        Chips.weigh(x, 3);
        Expect.is("page 5 is free again", x.word(5, 0), 3);
        Expect.is("serial", x.word(5, 1), 3);
        for (int word = 0; word < 16; word++) {
            Chips.set(x, 5, word, -1);
        }
        Expect.is("a live page that was poked free", x.state(7), 29);
        Expect.is("is live still", x.state(3), 1);
        Expect.is("and fails", x.audit(1, 3), 1);
        Chips.weighAndSync(x, 4);
        Expect.is("it is written again", x.word(5, 0), 5);
        Expect.is("a page that is live for two leaves", x.state(3), 1);
    }
}
