/** Promises 13 to 15: cutAfter, crash, mount. */
public final class PowerTest {
    private static final int[] FAR = {Integer.MIN_VALUE, Integer.MAX_VALUE};

    public static void main(String[] args) {
        cutArguments();
        cutInEveryWord();
        cutInCloseAndAnnul();
        cutIsToldOnce();
        cutForgotten();
        crashLosesWhatIsNotOnTheChip();
        mountTakesTheGreatestSerial();
        mountStopsAtAGap();
        mountStopsAtAShortLeaf();
        mountReadsVoidings();
        mountOnFailedBlocks();
        serialsGoOn();
        Expect.end();
    }

    private static void cutArguments() {
        WeighRecorder x = Chips.recorder();
        for (int n : new int[] {-1, 301, FAR[0], FAR[1]}) {
            Expect.badArgument("cutAfter(" + n + ")", () -> x.cutAfter(n));
        }
        Chips.weigh(x, 1);
        Expect.is("nothing was told", x.sync(), 1);
        x.cutAfter(300);
        Chips.weigh(x, 2);
        Expect.is("300 steps are many", x.sync(), 1);
        x.crash();
        x.cutAfter(0);
        Expect.badArgument("cutAfter while off", () -> x.cutAfter(301));
    }

    private static void cutInEveryWord() {
        for (int n = 0; n <= 16; n++) {
            WeighRecorder x = Chips.recorder();
            Chips.weigh(x, 7);
            x.cutAfter(n);
            Expect.is("sync cut after " + n, x.sync(), n < 16 ? -2 : 1);
            Expect.is("power", x.state(8), n < 16 ? 0 : 1);
            for (int word = 0; word < 16; word++) {
                Expect.is("word " + word + " cut after " + n, x.word(0, word) != -1 ? 1 : 0, word < n ? 1 : 0);
            }
            Expect.is("free pages", x.state(7), n == 0 ? 32 : 31);
            Expect.is("mount cut after " + n, x.mount(), n < 16 ? 0 : 1);
            Expect.is("cursor", x.state(6), n < 16 ? -1 : 0);
            Chips.weigh(x, 8);
            Expect.is("sync behind mount", x.sync(), 1);
            // Without a right page there is no cursor, and a block with a page begun is not clean.
            int page = n == 0 ? 0 : n < 16 ? 4 : 1;
            Expect.is("the page behind, cut after " + n, x.word(page, 15), Chips.MARK);
        }
    }

    private static void cutInCloseAndAnnul() {
        WeighRecorder x = Chips.recorder();
        Chips.weighAndSync(x, 1);
        Chips.weighAndSync(x, 2);
        x.axle(5);
        x.cutAfter(15);
        Expect.is("close", x.close(3, 0, 3, 0), -2);
        Expect.badState("close while off", () -> x.close(3, 0, 3, 0));
        Expect.is("mount", x.mount(), 2);
        Expect.is("readings are lost", x.state(4), 0);
        x.cutAfter(0);
        Expect.is("annul", x.annul(1, 0), -2);
        Expect.is("mount", x.mount(), 2);
        Expect.is("not voided", x.ticket(1, 5), 0);
        x.cutAfter(16);
        Expect.is("annul with 16 steps", x.annul(1, 0), 1);
        Expect.is("power is on", x.state(8), 1);
        Expect.is("mount", x.mount(), 2);
        Expect.is("voided", x.ticket(1, 5), 1);
    }

    private static void cutIsToldOnce() {
        WeighRecorder x = Chips.recorder();
        Chips.weigh(x, 1);
        x.cutAfter(3);
        x.cutAfter(20);
        Expect.is("the later one counts", x.sync(), 1);
        Chips.weigh(x, 2);
        Expect.is("four are left", x.sync(), -2);
        Expect.is("word 3", x.word(1, 3) != -1 ? 1 : 0, 1);
        Expect.is("word 4", x.word(1, 4), -1);
        x.mount();
        Chips.weigh(x, 2);
        Expect.is("nothing is told behind a cut", x.sync(), 1);
        x.cutAfter(0);
        Expect.is("no step in a sync of nothing", x.sync(), 1);
        Chips.weigh(x, 3);
        Expect.is("it waits for a step", x.state(8), 0);
    }

    private static void cutForgotten() {
        WeighRecorder x = Chips.recorder();
        Chips.weigh(x, 1);
        x.cutAfter(0);
        x.mount();
        Chips.weigh(x, 1);
        Expect.is("mount forgets it", x.sync(), 1);
        x.cutAfter(0);
        x.crash();
        x.mount();
        Chips.weigh(x, 2);
        Expect.is("crash forgets it", x.sync(), 1);
        x.crash();
        x.cutAfter(0);
        x.mount();
        Chips.weigh(x, 3);
        Expect.is("told while off", x.sync(), 1);
        x.cutAfter(0);
        x.poke(9, 9, 9);
        x.failBlock(7);
        x.setProduct(1, true);
        x.axle(1);
        Expect.is("none of these is a step", x.state(8), 1);
    }

    private static void crashLosesWhatIsNotOnTheChip() {
        WeighRecorder x = Chips.recorder();
        Chips.weighAndSync(x, 1);
        Chips.weigh(x, 2);
        x.axle(3);
        x.crash();
        x.crash();
        Expect.is("power", x.state(8), 0);
        Expect.is("mount", x.mount(), 1);
        Expect.is("power", x.state(8), 1);
        Expect.is("records", x.state(0), 1);
        Expect.is("durable", x.state(1), 1);
        Expect.is("readings", x.state(4), 0);
        Expect.is("axle", x.axle(3), 1);
        Expect.is("mount while on", x.mount(), 1);
        Expect.is("readings", x.state(4), 0);
        Chips.weigh(x, 2);
        Expect.is("gross is of new readings alone", x.ticket(2, 1), 1000);
    }

    private static void mountTakesTheGreatestSerial() {
        WeighRecorder x = Chips.recorder();
        Chips.forge(x, 9, 1, 8, Chips.chain(7989, 1, 100));
        Chips.forge(x, 13, 1, 9, Chips.chain(7989, 1, 200));
        Chips.forge(x, 17, 1, 9, Chips.chain(7989, 1, 300));
        Expect.is("mount", x.mount(), 1);
        Expect.is("the first of those alike", x.ticket(1, 0), 200);
        Expect.is("its block is the cursor", x.state(6), 3);
        Expect.is("latest serial", x.state(5), 9);
        x.poke(13, 15, 1);
        x.mount();
        Expect.is("the other one", x.ticket(1, 0), 300);
        Expect.is("its block", x.state(6), 4);
        x.poke(17, 14, 1);
        x.mount();
        Expect.is("the one before", x.ticket(1, 0), 100);
        Expect.is("latest serial then", x.state(5), 8);
        x.poke(9, 0, 64);
        Expect.is("none is right", x.mount(), 0);
        Expect.is("no cursor", x.state(6), -1);
        Expect.is("no serial", x.state(5), 0);
        Expect.is("no live page", x.state(3), 0);
    }

    private static void mountStopsAtAGap() {
        WeighRecorder x = Chips.recorder();
        for (int i = 1; i <= 9; i++) {
            Chips.weigh(x, i);
        }
        x.poke(1, 3, 1);
        Expect.is("leaf 1 is missing", x.mount(), 3);
        Expect.is("one live page", x.state(3), 1);
        Expect.is("serial of all right pages", x.state(5), 3);
        Expect.is("cursor", x.state(6), 0);
        x.poke(0, 3, 1);
        Expect.is("leaf 0 is missing", x.mount(), 0);
        Expect.is("no live page", x.state(3), 0);
        Expect.is("serial of leaf 2", x.state(5), 3);
    }

    private static void mountStopsAtAShortLeaf() {
        WeighRecorder x = Chips.recorder();
        int[] three = Chips.chain(7989, 3, 10);
        int[] two = Chips.chain(Chips.linkBehind(three), 2, 13);
        Chips.forge(x, 4, 3, 1, three);
        Chips.forge(x, 5, 6, 2, two);
        Chips.forge(x, 6, 11, 3, three);
        Expect.is("up to the short leaf", x.mount(), 5);
        Expect.is("two live pages", x.state(3), 2);
        Expect.is("all durable", x.state(1), 5);
        Expect.is("audit", x.audit(1, 5), 0);
        Expect.is("the log goes on there", Chips.weigh(x, 15), 6);
        Expect.is("audit", x.audit(1, 6), 0);
        Expect.is("page behind", x.word(7, 0), 7);
        Expect.is("serial behind", x.word(7, 1), 4);
        Expect.is("the old leaf 2 is found behind a full leaf 1", x.mount(), 9);
        Expect.is("but its chain is broken", x.audit(1, 9), 7);
    }

    private static void mountReadsVoidings() {
        WeighRecorder x = Chips.recorder();
        int[] first = Chips.chain(7989, 3, 10);
        Chips.forge(x, 0, 3, 1, first);
        // Voidings: one that holds, one of a voided ticket, one of a ticket behind it.
        Chips.forge(x, 1, 7, 2, 2, 3, Chips.VOIDING, 0, 2, 0, -1, 0, 4, 0, Chips.VOIDING, 0);
        // A ticket, a voiding with a wrong reason, one that holds.
        Chips.forge(x, 2, 11, 3, 9, 1 << 18, 62 << 26, 0, 1, 4, Chips.VOIDING, 0, 3, 0, -5, 0);
        Chips.forge(x, 3, 14, 4, 1, -1, Chips.VOIDING, 0, 0, 0, Chips.VOIDING, 0);
        Expect.is("mount", x.mount(), 4);
        Expect.is("records", x.state(0), 11);
        int[] due = {0, 4, 1, 0};
        for (int number = 1; number <= 4; number++) {
            Expect.is("voided " + number, x.ticket(number, 5), due[number - 1]);
        }
        Expect.is("a ticket of product 62", x.ticket(4, 3), 62);
        Expect.is("annul of one not voided", x.annul(1, 3), 1);
        Expect.is("mount", x.mount(), 4);
        Expect.is("and it is", x.ticket(1, 5), 4);
    }

    private static void mountOnFailedBlocks() {
        WeighRecorder x = Chips.recorder();
        Chips.weighAndSync(x, 1);
        x.failBlock(0);
        Expect.is("read as ever", x.mount(), 1);
        Expect.is("the cursor may have failed", x.state(6), 0);
        Expect.is("live", x.state(3), 1);
        Chips.weighAndSync(x, 2);
        Expect.is("but is not written", x.state(6), 1);
        Expect.is("page 1", x.word(1, 0), -1);
        Expect.is("page 4", x.word(4, 0), 2);
    }

    private static void serialsGoOn() {
        WeighRecorder x = Chips.recorder();
        Chips.forge(x, 0, 1, 1000, Chips.chain(7989, 1, 1));
        x.mount();
        Expect.is("latest serial", x.state(5), 1000);
        Chips.weighAndSync(x, 2);
        Expect.is("next serial", x.word(1, 1), 1001);
        Expect.is("latest serial", x.state(5), 1001);
        WeighRecorder y = Chips.recorder();
        Chips.forge(y, 0, 1, -7, Chips.chain(7989, 1, 1));
        y.mount();
        Expect.is("the greatest one is below 0", y.state(5), -7);
        Chips.weighAndSync(y, 2);
        Expect.is("and one", y.word(1, 1), -6);
    }
}
