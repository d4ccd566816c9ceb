import java.util.Arrays;

/** WHERE a leaf is written: the cursor, clean blocks, the victim, SERIALs. */
final class TermsWhere {
    private TermsWhere() {
    }

    static void run() {
        Document terms = Document.part("Terms");
        cursor(terms);
        victim(terms);
        oneClean(terms);
        noneClean(terms);
        terms.says("Each page that is written has the next SERIAL (1 at first", TermsWhere::serialsAtFirst);
        terms.says("at mount() the greatest of right pages, and one).", TermsWhere::serialsBehindMount);
    }

    private static void cursor(Document terms) {
        terms.says("WHERE a leaf is written: at the first free page of THE CURSOR", TermsWhere::firstFreePage);
        terms.says("which is a block (or none)", TermsWhere::noCursor);
        terms.says("if it has one and has not failed.", TermsWhere::cursorIsFull);
        terms.says("if it has one and has not failed.", TermsWhere::cursorFailed);
        terms.says("Otherwise by CLEAN blocks (all four pages free, not failed):", TermsWhere::allFourPagesFree);
        terms.says("Otherwise by CLEAN blocks (all four pages free, not failed):", TermsWhere::cleanAndFailed);
        terms.says("two or more: the one of least wear", TermsWhere::leastWear);
        terms.says("two or more: the one of least wear", TermsWhere::twoAreEnough);
        terms.says("least wear (of those alike the first one) is the cursor.", TermsWhere::firstOfThoseAlike);
    }

    private static void victim(Document terms) {
        terms.says("One, or none: a VICTIM is the block that has not failed", TermsWhere::victimHasNotFailed);
        terms.says("with the most pages that are neither free nor live", TermsWhere::mostPages);
        terms.says("with the most pages that are neither free nor live", TermsWhere::freeAndLivePagesDoNotCount);
        terms.says("at least one (of those alike the first one).", TermsWhere::firstOfVictimsAlike);
        terms.says("at least one (of those alike the first one).", TermsWhere::onePageIsEnough);
    }

    private static void oneClean(Document terms) {
        terms.says("One: it is the cursor; and if there is a victim", TermsWhere::oneCleanWithoutVictim);
        terms.says("its live pages are written again, by their numbers, at the first free pages of the cursor",
                TermsWhere::movedByTheirNumbers);
        terms.says("its live pages are written again, by their numbers, at the first free pages of the cursor",
                TermsWhere::victimWithoutLivePages);
        terms.says("with the words 0 and 2 to 13 that they have there", TermsWhere::movedAsTheyStand);
        terms.says("the next SERIAL, and sum and last word by these", TermsWhere::movedWithNewSerials);
        terms.says("(they are the live ones of their leaves then)", TermsWhere::movedPagesAreLive);
        terms.says("and the victim is erased.", TermsWhere::victimIsErasedLast);
    }

    private static void noneClean(Document terms) {
        terms.says("None: a victim without live pages is erased, and the cursor", TermsWhere::noneClean);
        terms.says("None: a victim without live pages is erased, and the cursor", TermsWhere::livePagesNextDoor);
        terms.says("None: a victim without live pages is erased, and the cursor", TermsWhere::noneCleanCut);
        terms.says("otherwise (no victim", TermsWhere::noVictim);
        terms.says("or one with live pages) the recorder is WORN OUT.", TermsWhere::victimWithLivePages);
        terms.says("or one with live pages) the recorder is WORN OUT.", TermsWhere::anotherBlockWouldDo);
    }

    private static void firstFreePage() {
        WeighRecorder x = Chips.recorder();
        for (int page = 0; page < 4; page++) {
            Chips.weighAndSync(x, page);
            Expect.is("the cursor's pages in their order", x.word(page, 1), page + 1);
            Expect.is("cursor", x.state(6), 0);
        }
        Chips.weighAndSync(x, 5);
        Chips.spoil(x, 5);
        Chips.weighAndSync(x, 6);
        Expect.is("the first one that is free", x.word(6, 1), 6);
        Chips.spoil(x, 5);
        Chips.weighAndSync(x, 7);
        Expect.is("one ahead of it that is free again", x.word(5, 1), 7);
        Chips.weighAndSync(x, 8);
        Expect.is("the last one", x.word(7, 1), 8);
        Expect.is("cursor", x.state(6), 1);
    }

    private static void noCursor() {
        WeighRecorder x = Chips.recorder();
        Expect.is("none at first", x.state(6), -1);
        Chips.spoil(x, 0);
        Chips.weighAndSync(x, 1);
        Expect.is("then a clean block", x.state(6), 1);
        x.poke(4, 15, 1);
        x.mount();
        Expect.is("none without right pages", x.state(6), -1);
        Chips.weighAndSync(x, 1);
        Expect.is("then a clean block", x.state(6), 2);
        Expect.is("though there are free pages ahead", x.word(1, 0), -1);
    }

    private static void cursorIsFull() {
        WeighRecorder x = Chips.recorder();
        for (int page = 0; page < 28; page++) {
            Chips.weighAndSync(x, page);
            Expect.is("page " + page, x.word(page, 1), page + 1);
            Expect.is("cursor with page " + page, x.state(6), page / 4);
        }
    }

    private static void cursorFailed() {
        WeighRecorder x = Chips.recorder();
        Chips.weighAndSync(x, 1);
        x.failBlock(0);
        Expect.is("it is the cursor until a leaf is written", x.state(6), 0);
        Chips.weighAndSync(x, 2);
        Expect.is("then another one is", x.state(6), 1);
        Expect.is("whose first page is written", x.word(4, 1), 2);
        Expect.is("and no free page of the failed one", x.word(1, 0), -1);
        x.failBlock(1);
        x.mount();
        Expect.is("at mount() a failed block may be the cursor", x.state(6), 1);
        Chips.weigh(x, 3);
        Expect.is("and is not written", x.word(8, 1), 3);
    }

    private static void allFourPagesFree() {
        for (int page = 0; page < 4; page++) {
            WeighRecorder x = Chips.recorder();
            Chips.spoil(x, page);
            Chips.weighAndSync(x, 1);
            Expect.is("page " + page + " is not free: cursor", x.state(6), 1);
            WeighRecorder y = Chips.firstOfTwoBlocksFull();
            Chips.spoil(y, 4 + page);
            Expect.is("none is clean", Chips.weighAndSync(y, 5), -1);
        }
    }

    private static void cleanAndFailed() {
        WeighRecorder x = Chips.recorderWithBlocks(0, 1, 2);
        WeighRecorder y = Chips.recorderWithBlocks(0, 1, 2);
        for (int i = 1; i <= 4; i++) {
            Chips.weighAndSync(x, i);
            Chips.weighAndSync(y, i);
        }
        Chips.weighAndSync(x, 5);
        Expect.is("two are clean: no victim", x.wearOf(0), 0);
        y.failBlock(1);
        Chips.weighAndSync(y, 5);
        Expect.is("one of them failed: a victim", y.wearOf(0), 1);
        Expect.is("the other one is the cursor", y.state(6), 2);
    }

    /** Erases a block of those that are usable once, and leaves them all clean. */
    private static void wearOnce(WeighRecorder x, int block, int... usable) {
        for (int other : usable) {
            if (other != block) {
                Chips.spoil(x, 4 * other);
            }
        }
        Chips.spoilBlock(x, block);
        Chips.weighAndSync(x, 1);
        Chips.wipe(x, 4 * block);
        for (int other : usable) {
            if (other != block) {
                Chips.spoil(x, 4 * other);
            }
        }
        x.mount();
    }

    private static void leastWear() {
        int[] usable = {2, 3, 5};
        WeighRecorder x = Chips.recorderWithBlocks(usable);
        for (int block : new int[] {2, 2, 3}) {
            wearOnce(x, block, usable);
        }
        Expect.is("wear", x.wearOf(2) * 100 + x.wearOf(3) * 10 + x.wearOf(5), 210);
        Expect.is("all are clean", x.state(7), 12);
        Chips.weighAndSync(x, 1);
        Expect.is("no wear", x.state(6), 5);
        x.failBlock(5);
        Chips.weighAndSync(x, 2);
        Expect.is("less wear", x.state(6), 3);
    }

    private static void twoAreEnough() {
        WeighRecorder x = Chips.recorderWithBlocks(0, 1, 2);
        for (int i = 1; i <= 4; i++) {
            Chips.weighAndSync(x, i);
        }
        Chips.weighAndSync(x, 5);
        Expect.is("nothing is moved", x.word(4, 0), 6);
        Expect.is("nothing is erased", x.wearOf(0), 0);
        Expect.is("the first of two", x.state(6), 1);
        for (int i = 6; i <= 9; i++) {
            Chips.weighAndSync(x, i);
        }
        Expect.is("with one that is clean, there is a victim", x.wearOf(0), 1);
        Expect.is("and one is the cursor", x.state(6), 2);
    }

    private static void firstOfThoseAlike() {
        WeighRecorder x = Chips.recorderWithBlocks(1, 4, 6);
        Chips.weighAndSync(x, 1);
        Expect.is("without wear", x.state(6), 1);
        int[] usable = {0, 3, 7};
        WeighRecorder y = Chips.recorderWithBlocks(usable);
        for (int block : new int[] {0, 0, 3, 7}) {
            wearOnce(y, block, usable);
        }
        Expect.is("wear", y.wearOf(0) * 100 + y.wearOf(3) * 10 + y.wearOf(7), 211);
        Chips.weighAndSync(y, 1);
        Expect.is("with wear", y.state(6), 3);
    }

    private static void victimHasNotFailed() {
        WeighRecorder x = Chips.recorderWithBlocks(3, 4, 5);
        Chips.spoilBlock(x, 3);
        Chips.spoil(x, 16);
        Chips.spoil(x, 17);
        Chips.spoil(x, 20);
        x.failBlock(3);
        Expect.is("sync", Chips.weighAndSync(x, 1), 1);
        Expect.is("the failed one, which has the most", x.wearOf(3), 0);
        Expect.is("the one with the most of the others", x.wearOf(4), 1);
        Expect.is("the last one", x.wearOf(5), 0);
    }

    private static void mostPages() {
        for (int most = 0; most < 4; most++) {
            WeighRecorder x = Chips.recorderWithBlocks(0, 1, 2, 3);
            for (int block = 0; block < 4; block++) {
                for (int page = 0; page < (block == most ? 3 : 2); page++) {
                    Chips.spoil(x, 4 * block + 3 - page);
                }
            }
            Chips.weighAndSync(x, 1);
            for (int block = 0; block < 4; block++) {
                Expect.is("wear of " + block + ", " + most + " has the most", x.wearOf(block), block == most ? 1 : 0);
            }
            Expect.is("cursor", x.state(6), most);
        }
    }

    /** Block 0 has four live pages, block 1 one spoiled and three free ones: that one is the victim. */
    private static void freeAndLivePagesDoNotCount() {
        WeighRecorder x = Chips.fullOfLiveLeaves(Chips.recorderWithBlocks(0, 1), 0);
        Chips.spoil(x, 6);
        Expect.is("sync", Chips.weighAndSync(x, 13), 1);
        Expect.is("wear of the block of live pages", x.wearOf(0), 0);
        Expect.is("wear of the other one", x.wearOf(1), 1);
        // Pages that were live once, that were cut, and that stand behind a gap count.
        WeighRecorder y = Chips.recorderWithBlocks(0, 1);
        Chips.weighAndSync(y, 1);
        Chips.weigh(y, 2);
        y.cutAfter(3);
        y.sync();
        Chips.forge(y, 2, 11, 7, Chips.chain(7989, 3, 1));
        Expect.is("mount()", y.mount(), 1);
        Chips.weighAndSync(y, 2);
        Expect.is("the last page is written", y.word(3, 1), 8);
        Expect.is("sync", Chips.weighAndSync(y, 3), 1);
        Expect.is("one page was live of four", y.word(4, 1), 9);
        Expect.is("the new one is behind it", y.word(5, 1), 10);
        Expect.is("the block is erased", y.wearOf(0), 1);
    }

    private static void firstOfVictimsAlike() {
        WeighRecorder x = Chips.recorderWithBlocks(5, 6, 7);
        for (int block = 5; block <= 7; block++) {
            Chips.spoil(x, 4 * block + 1);
            Chips.spoil(x, 4 * block + 2);
        }
        Chips.weighAndSync(x, 1);
        Expect.is("the first one", x.wearOf(5), 1);
        Expect.is("the others", x.wearOf(6) + x.wearOf(7), 0);
        Expect.is("its page", x.word(20, 0), 1);
    }

    private static void onePageIsEnough() {
        WeighRecorder x = Chips.fullOfLiveLeaves(Chips.recorderWithBlocks(0, 1), 0);
        x.poke(3, 1, 1);
        Expect.is("mount() without leaf 3", x.mount(), 9);
        Expect.is("sync", Chips.weighAndSync(x, 10), 1);
        Expect.is("one page of four", x.wearOf(0), 1);
        for (int leaf = 0; leaf < 3; leaf++) {
            Expect.is("three are moved", x.word(4 + leaf, 0), 4 * leaf + 3);
        }
        Expect.is("the last page is the new leaf's", x.word(7, 0), 13);
        Expect.is("audit", x.audit(1, 10), 0);
        Expect.is("mount()", x.mount(), 10);
    }

    private static void oneCleanWithoutVictim() {
        WeighRecorder x = Chips.fullOfLiveLeaves(Chips.recorderWithBlocks(0, 1), 0);
        Expect.is("sync", Chips.weighAndSync(x, 13), 1);
        Expect.is("the clean one is the cursor", x.state(6), 1);
        Expect.is("nothing is moved", x.word(4, 0), 17);
        Expect.is("nothing is erased", x.wearOf(0) + x.wearOf(1), 0);
        WeighRecorder y = Chips.recorderWithBlocks(6);
        Expect.is("the only block", Chips.weighAndSync(y, 1), 1);
        Expect.is("is the cursor", y.state(6), 6);
        Expect.is("and not its own victim", y.wearOf(6), 0);
    }

    /** Leaf 2 stands ahead of leaf 0, and that ahead of leaf 1; a page between them is not live. */
    private static void movedByTheirNumbers() {
        WeighRecorder x = Chips.recorderWithBlocks(3, 4);
        int[] first = Chips.chain(7989, 3, 1);
        int[] second = Chips.chain(Chips.linkBehind(first), 3, 4);
        int[] third = Chips.chain(Chips.linkBehind(second), 2, 7);
        Chips.forge(x, 16, 10, 8, third);
        Chips.forge(x, 17, 3, 6, first);
        Chips.forge(x, 18, 3, 5, first);
        Chips.forge(x, 19, 7, 7, second);
        Expect.is("mount()", x.mount(), 8);
        Expect.is("cursor", x.state(6), 4);
        Expect.is("the third record of leaf 2", Chips.weigh(x, 9), 9);
        int[] heads = {10, 3, 7, 11};
        for (int i = 0; i < 4; i++) {
            Expect.is("word 0 of page " + (12 + i), x.word(12 + i, 0), heads[i]);
            Expect.is("SERIAL of page " + (12 + i), x.word(12 + i, 1), 9 + i);
        }
        Expect.is("audit", x.audit(1, 9), 0);
        Expect.is("live pages", x.state(3), 3);
        Expect.is("mount()", x.mount(), 9);
    }

    private static void victimWithoutLivePages() {
        WeighRecorder x = Chips.recorderWithBlocks(2, 5);
        Chips.spoil(x, 11);
        Chips.weigh(x, 1);
        x.cutAfter(17);
        Expect.is("an erasure and a page", x.sync(), 1);
        Expect.is("the victim", x.wearOf(2), 1);
        Expect.is("the clean one is the cursor", x.state(6), 5);
        Expect.is("its first page", x.word(20, 0), 1);
        Expect.is("SERIAL", x.word(20, 1), 1);
    }

    private static void movedAsTheyStand() {
        WeighRecorder x = Chips.firstOfTwoBlocksFull();
        int[] leaf0 = Chips.page(x, 2);
        leaf0[10] ^= 64;
        x.poke(2, 10, 64);
        int[] leaf1 = Chips.page(x, 3);
        leaf1[0] = 62;
        leaf1[13] ^= Chips.LEAST;
        Chips.set(x, 3, 0, 62);
        x.poke(3, 13, Chips.LEAST);
        x.poke(3, 14, 1);
        x.poke(3, 15, 1);
        Expect.is("neither is right", x.audit(1, 4) * 10 + x.audit(4, 4), 14);
        Chips.weighAndSync(x, 5);
        Chips.samePage("moved", x, 4, sealed(leaf0, 5));
        Chips.samePage("moved", x, 5, sealed(leaf1, 6));
        Expect.is("they are right then: the chain alone tells", x.audit(1, 5), 4);
        Expect.is("under the leaves that they were live for", x.state(3), 2);
        WeighRecorder y = Chips.firstOfTwoBlocksFull();
        Chips.set(y, 2, 0, -1);
        Chips.weighAndSync(y, 5);
        Expect.is("a head that no page has", y.word(4, 0), -1);
        Expect.is("is not right behind the move either", y.audit(1, 5), 1);
    }

    private static int[] sealed(int[] page, int serial) {
        int[] words = page.clone();
        words[1] = serial;
        words[14] = Chips.sum(Arrays.copyOf(words, 14));
        words[15] = Chips.MARK;
        return words;
    }

    private static void movedWithNewSerials() {
        WeighRecorder x = Chips.firstOfTwoBlocksFull();
        int[] leaf0 = Chips.page(x, 2);
        int[] leaf1 = Chips.page(x, 3);
        Chips.weighAndSync(x, 5);
        Chips.samePage("leaf 0", x, 4, sealed(leaf0, 5));
        Chips.samePage("leaf 1", x, 5, sealed(leaf1, 6));
        Expect.is("the new leaf 1", x.word(6, 0), 6);
        Expect.is("its SERIAL", x.word(6, 1), 7);
        Expect.is("the latest SERIAL", x.state(5), 7);
        Expect.is("free pages", x.state(7), 5);
    }

    private static void movedPagesAreLive() {
        WeighRecorder x = Chips.firstOfTwoBlocksFull();
        Chips.weighAndSync(x, 5);
        movedBackAgain();
        Expect.is("two leaves", x.state(3), 2);
        Expect.is("all are durable", x.state(1), 5);
        Expect.is("audit", x.audit(1, 5), 0);
        x.poke(4, 1, 1);
        Expect.is("leaf 0 is on page 4", x.audit(1, 5), 1);
        x.poke(4, 1, 1);
        x.poke(5, 1, 1);
        Expect.is("leaf 1 is on page 5 no more", x.audit(1, 5), 0);
        x.poke(6, 1, 1);
        Expect.is("but on page 6", x.audit(1, 5), 4);
        x.poke(2, 1, 1);
        Expect.is("page 2 is not live any more", x.audit(1, 3), 0);
    }

    private static void movedBackAgain() {
        WeighRecorder x = Chips.firstOfTwoBlocksFull();
        for (int i = 5; i <= 7; i++) {
            Chips.weighAndSync(x, i);
        }
        Expect.is("the cursor is the first block again", x.state(6), 0);
        int[] heads = {3, 7, 9, -1};
        for (int page = 0; page < 4; page++) {
            Expect.is("word 0 of page " + page, x.word(page, 0), heads[page]);
        }
        Expect.is("three leaves", x.state(3), 3);
        Expect.is("audit", x.audit(1, 7), 0);
        Expect.is("each block was erased once", x.wearOf(0) * 10 + x.wearOf(1), 11);
    }

    private static void victimIsErasedLast() {
        for (int n = 0; n <= 49; n++) {
            WeighRecorder x = Chips.firstOfTwoBlocksFull();
            Chips.weigh(x, 5);
            x.cutAfter(n);
            Expect.is("sync cut after " + n, x.sync(), n < 49 ? -2 : 1);
            Expect.is("wear cut after " + n, x.wearOf(0), n > 32 ? 1 : 0);
            Expect.is("page 3 cut after " + n, x.word(3, 0), n > 32 ? -1 : 5);
            Expect.is("mount cut after " + n, x.mount(), n < 49 ? 4 : 5);
            Expect.is("audit cut after " + n, x.audit(1, 5), 0);
            Expect.is("cursor cut after " + n, x.state(6), n < 16 ? 0 : 1);
        }
    }

    private static void noneClean() {
        WeighRecorder x = Chips.fullOfLiveLeaves(Chips.recorderWithBlocks(0, 1, 2), 0);
        Chips.spoil(x, 4);
        Chips.spoil(x, 8);
        Chips.spoil(x, 11);
        Chips.weigh(x, 13);
        x.cutAfter(17);
        Expect.is("an erasure and a page", x.sync(), 1);
        Expect.is("the victim, two of whose pages were free", x.wearOf(2), 1);
        Expect.is("the other one", x.wearOf(1), 0);
        Expect.is("it is the cursor", x.state(6), 2);
        Expect.is("its first page", x.word(8, 0), 17);
        Expect.is("three pages are free in each of two", x.state(7), 6);
        Expect.is("audit", x.audit(1, 13), 0);
        Expect.is("mount()", x.mount(), 13);
    }

    private static void livePagesNextDoor() {
        WeighRecorder x = Chips.fullOfLiveLeaves(Chips.recorderWithBlocks(1, 2), 2);
        Chips.spoilBlock(x, 1);
        Expect.is("sync", Chips.weighAndSync(x, 13), 1);
        Expect.is("live pages behind the victim", x.wearOf(1), 1);
        WeighRecorder y = Chips.fullOfLiveLeaves(Chips.recorderWithBlocks(1, 2), 1);
        Chips.spoilBlock(y, 2);
        Expect.is("sync", Chips.weighAndSync(y, 13), 1);
        Expect.is("live pages ahead of the victim", y.wearOf(2), 1);
    }

    private static void noneCleanCut() {
        WeighRecorder x = Chips.recorderWithBlocks(5);
        Chips.spoilBlock(x, 5);
        for (int n = 0; n <= 1; n++) {
            Chips.weigh(x, 1);
            x.cutAfter(n);
            Expect.is("sync cut after " + n, x.sync(), -2);
            Expect.is("wear cut after " + n, x.wearOf(5), n);
            Expect.is("page 20 cut after " + n, x.word(20, 0), n == 0 ? 0 : -1);
            x.mount();
        }
        Expect.is("the block is clean then", Chips.weighAndSync(x, 1), 1);
        Expect.is("and not erased again", x.wearOf(5), 1);
    }

    private static void noVictim() {
        WeighRecorder x = Chips.fullOfLiveLeaves(Chips.recorderWithBlocks(2), 2);
        Chips.weigh(x, 13);
        Chips.answersAndDoesNothing("all pages are live", x, -1, x::sync);
        Expect.is("the cursor stays", x.state(6), 2);
        WeighRecorder y = Chips.recorderWithBlocks();
        Chips.weigh(y, 1);
        Chips.answersAndDoesNothing("all blocks failed", y, -1, y::sync);
        Expect.is("there is no cursor", y.state(6), -1);
    }

    private static void victimWithLivePages() {
        for (int live = 0; live < 4; live++) {
            WeighRecorder x = Chips.recorderWithBlocks(7);
            Chips.spoilBlock(x, 7);
            Chips.spoil(x, 28 + live);
            Chips.forge(x, 28 + live, 1, 5, Chips.chain(7989, 1, 1));
            x.mount();
            Chips.weigh(x, 2);
            Chips.answersAndDoesNothing("page " + (28 + live) + " is live", x, -1, x::sync);
            Expect.is("nothing is erased", x.word(28 + live, 0), 1);
        }
    }

    /** The victim is the block with the most pages, whatever else could be erased. */
    private static void anotherBlockWouldDo() {
        WeighRecorder x = Chips.recorderWithBlocks(0, 1);
        for (int page = 0; page < 3; page++) {
            Chips.spoil(x, page);
        }
        Chips.forge(x, 3, 1, 5, Chips.chain(7989, 1, 1));
        Chips.spoil(x, 4);
        Chips.spoil(x, 5);
        x.mount();
        Chips.weigh(x, 2);
        Chips.answersAndDoesNothing("three against two", x, -1, x::sync);
        x.mount();
        Chips.spoil(x, 6);
        Chips.weigh(x, 2);
        Chips.answersAndDoesNothing("three against three: the first one", x, -1, x::sync);
        x.mount();
        Chips.spoil(x, 7);
        Expect.is("three against four", Chips.weighAndSync(x, 2), 1);
        Expect.is("the second one is erased", x.wearOf(1), 1);
    }

    private static void serialsAtFirst() {
        WeighRecorder x = Chips.tickets(3);
        Expect.is("the first page", x.word(0, 1), 1);
        Chips.weighAndSync(x, 4);
        Expect.is("the second page", x.word(1, 1), 2);
        WeighRecorder y = Chips.tickets(1);
        y.cutAfter(15);
        y.sync();
        Expect.is("a page that is cut has it", y.word(0, 1), 1);
        y.mount();
        Chips.weighAndSync(y, 1);
        Expect.is("and as it is not right, the next one too", y.word(4, 1), 1);
    }

    private static void serialsBehindMount() {
        WeighRecorder x = Chips.recorder();
        Chips.forge(x, 0, 1, 1000, Chips.chain(7989, 1, 1));
        Chips.forge(x, 9, 63, 2000, Chips.chain(7989, 3, 1));
        Chips.forge(x, 10, 1, 3000, Chips.chain(7989, 1, 1));
        x.poke(10, 14, 1);
        Expect.is("mount()", x.mount(), 1);
        Expect.is("of right pages, be they live or not", x.state(5), 2000);
        Chips.weighAndSync(x, 2);
        Expect.is("and one", x.word(8, 1), 2001);
        WeighRecorder y = Chips.recorder();
        Chips.forge(y, 0, 1, -7, Chips.chain(7989, 1, 1));
        Chips.forge(y, 1, 1, -9, Chips.chain(7989, 1, 2));
        y.mount();
        Expect.is("below 0", y.state(5), -7);
        Chips.weighAndSync(y, 2);
        Expect.is("and one", y.word(2, 1), -6);
    }
}
