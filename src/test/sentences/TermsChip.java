/** THE CHIP. */
final class TermsChip {
    private TermsChip() {
    }

    static void run() {
        Document terms = Document.part("Terms");
        terms.says("THE CHIP has BLOCKS 0 .. 7 of four PAGES of sixteen WORDS (ints)", TermsChip::sizes);
        terms.says("page p is of block p / 4", TermsChip::pagesOfBlocks);
        terms.says("all words are -1 at first.", TermsChip::firstWords);
        terms.says("A page is FREE when all its words are -1.", TermsChip::oneWordMakesAPageNotFree);
        terms.says("A page is FREE when all its words are -1.", TermsChip::aPageIsFreeByItsWordsAlone);
        terms.says("To WRITE a page is to write its words, the first one first", TermsChip::firstWordFirst);
        terms.says("into a FREE page", TermsChip::onlyFreePagesAreWritten);
        terms.says("to ERASE a block makes its words -1", TermsChip::erasedWords);
        terms.says("and its WEAR (0 at first) one more.", TermsChip::wear);
        terms.says("A block may FAIL: it is neither written", TermsChip::failedIsNotWritten);
        terms.says("nor erased any more", TermsChip::failedIsNotErased);
        terms.says("but read as ever.", TermsChip::failedIsRead);
    }

    private static void sizes() {
        WeighRecorder x = new WeighRecorder();
        x.wearOf(0);
        x.wearOf(7);
        Expect.badArgument("block 8", () -> x.wearOf(8));
        for (int page = 0; page < 32; page++) {
            int p = page;
            x.poke(page, 15, page);
            Expect.badIndex("word 16 of page " + page, () -> x.word(p, 16));
        }
        for (int page = 0; page < 32; page++) {
            Expect.is("each page has words of its own", x.word(page, 15), ~page);
        }
        Expect.badIndex("page 32", () -> x.word(32, 0));
        x.poke(3, 3, Chips.LEAST);
        Expect.is("a word is an int", x.word(3, 3), Chips.GREATEST);
    }

    private static void pagesOfBlocks() {
        for (int page = 0; page < 32; page++) {
            WeighRecorder x = new WeighRecorder();
            x.poke(page, 0, 1);
            x.failBlock(page / 4);
            Expect.is("page " + page + " is not among the free ones", x.state(7), 28);
            x.poke(page, 0, 1);
            Expect.is("nor is it when it is free", x.state(7), 28);
        }
    }

    private static void firstWords() {
        WeighRecorder x = new WeighRecorder();
        int bits = -1;
        for (int page = 0; page < 31; page++) {
            for (int word = 0; word < 16; word++) {
                bits &= x.word(page, word);
            }
        }
        Expect.is("the words of the pages 0 to 30", bits, -1);
        Expect.is("and those of page 31", x.state(7), 32);
    }

    private static void oneWordMakesAPageNotFree() {
        for (int word = 0; word < 16; word++) {
            WeighRecorder x = Chips.recorder();
            x.poke(0, word, 1 << (2 * word));
            Expect.is("word " + word + " is poked: free pages", x.state(7), 31);
            Chips.weighAndSync(x, 1);
            Expect.is("its block is not clean", x.state(6), 1);
            x.poke(5, word, Chips.LEAST);
            Chips.weighAndSync(x, 2);
            Expect.is("the next page of the cursor is not free", x.word(6, 0), 2);
            x.poke(5, word, Chips.LEAST);
            Chips.weigh(x, 3);
            Expect.is("it is free again", x.word(5, 0), 3);
        }
    }

    private static void aPageIsFreeByItsWordsAlone() {
        WeighRecorder x = Chips.tickets(3);
        Chips.wipe(x, 0);
        Expect.is("a live page that was poked free", x.state(7), 32);
        Expect.is("is live still", x.state(3), 1);
        Expect.is("and fails", x.audit(1, 3), 1);
        Chips.weighAndSync(x, 4);
        Expect.is("it is written again", x.word(0, 0), 5);
        Expect.is("one page is live, for two leaves", x.state(3), 1);
    }

    private static void firstWordFirst() {
        for (int n = 0; n <= 16; n++) {
            WeighRecorder x = Chips.tickets(1);
            x.cutAfter(n);
            x.sync();
            for (int word = 0; word < 16; word++) {
                Expect.is("word " + word + " is written after " + n + " steps", x.word(0, word) != -1 ? 1 : 0,
                        word < n ? 1 : 0);
            }
        }
    }

    private static void onlyFreePagesAreWritten() {
        WeighRecorder x = Chips.tickets(1);
        x.cutAfter(1);
        x.sync();
        x.mount();
        Chips.weighAndSync(x, 2);
        Expect.is("a page with one word is left alone", x.word(0, 1), -1);
        Expect.is("and its block is not clean", x.word(4, 0), 1);
        Chips.spoil(x, 5);
        int[] spoiled = Chips.page(x, 5);
        Chips.weighAndSync(x, 3);
        Chips.samePage("a poked page is left alone", x, 5, spoiled);
    }

    /** Block 4 is erased for the first leaf, since no block is clean and it has the most pages to erase. */
    private static WeighRecorder erasesBlock4() {
        WeighRecorder x = Chips.recorderWithBlocks(3, 4, 5);
        Chips.spoil(x, 15);
        Chips.spoil(x, 20);
        Chips.spoilBlock(x, 4);
        x.poke(19, 15, 7);
        Chips.weigh(x, 1);
        return x;
    }

    private static void erasedWords() {
        WeighRecorder x = erasesBlock4();
        x.cutAfter(1);
        Expect.is("sync", x.sync(), -2);
        for (int page = 16; page < 20; page++) {
            for (int word = 0; word < 16; word++) {
                Expect.is("word " + word + " of page " + page, x.word(page, word), -1);
            }
        }
        Expect.is("the page ahead of the block", x.word(15, 0), 0);
        Expect.is("the page behind the block", x.word(20, 0), 0);
    }

    private static void wear() {
        WeighRecorder x = erasesBlock4();
        Expect.is("at first", x.wearOf(4), 0);
        x.sync();
        int[] due = {0, 0, 0, 0, 1, 0, 0, 0};
        for (int block = 0; block < 8; block++) {
            Expect.is("wear of block " + block, x.wearOf(block), due[block]);
        }
        WeighRecorder y = Chips.firstOfTwoBlocksFull();
        for (int round = 1; round <= 2; round++) {
            for (int block = 0; block < 2; block++) {
                erases(y, block, round);
            }
        }
        WeighRecorder z = erasesBlock4();
        z.cutAfter(0);
        z.sync();
        Expect.is("an erasure that was not done", z.wearOf(4), 0);
    }

    /** Goes on until a block has some wear, which it gets by single steps. */
    private static void erases(WeighRecorder x, int block, int due) {
        for (int i = 0; i < 8 && x.wearOf(block) < due; i++) {
            Expect.is("wear of block " + block, x.wearOf(block), due - 1);
            Chips.weighAndSync(x, i);
        }
        Expect.is("wear of block " + block, x.wearOf(block), due);
    }

    private static void failedIsNotWritten() {
        WeighRecorder x = Chips.recorder();
        x.failBlock(0);
        Chips.weighAndSync(x, 1);
        Expect.is("a clean block that failed", x.word(0, 0), -1);
        Expect.is("the next one", x.word(4, 0), 1);
        x.failBlock(1);
        Chips.weighAndSync(x, 2);
        Expect.is("the cursor failed", x.word(5, 0), -1);
        Expect.is("the next one", x.word(8, 0), 2);
    }

    private static void failedIsNotErased() {
        WeighRecorder x = Chips.recorderWithBlocks(4);
        Chips.spoilBlock(x, 1);
        Chips.spoil(x, 16);
        Expect.is("sync", Chips.weighAndSync(x, 1), 1);
        Expect.is("wear of a failed block", x.wearOf(1), 0);
        Expect.is("its words", x.word(4, 0), 0);
        Expect.is("wear of the other one", x.wearOf(4), 1);
    }

    private static void failedIsRead() {
        WeighRecorder x = Chips.tickets(4);
        x.failBlock(0);
        Expect.is("live pages", x.state(3), 1);
        Expect.is("word", x.word(0, 0), 3);
        Expect.is("audit of a right page", x.audit(1, 4), 0);
        x.poke(0, 3, 1);
        Expect.is("audit of a page that is not", x.audit(1, 4), 1);
        x.poke(0, 3, 1);
        Expect.is("mount()", x.mount(), 3);
        Expect.is("the cursor", x.state(6), 0);
        Expect.is("live pages", x.state(3), 1);
    }
}
