/** Which pages are RIGHT and LIVE, and which records DURABLE. */
final class TermsPage {
    private TermsPage() {
    }

    static void run() {
        Document terms = Document.part("Terms");
        terms.says("It is RIGHT when it has this form", TermsPage::everyWordCounts);
        terms.says("It is RIGHT when it has this form", TermsPage::nothingElseIsAsked);
        terms.says("k 0 .. 15, the number 1 .. 3", TermsPage::heads);
        terms.says("that sum", TermsPage::sum);
        terms.says("that last word.", TermsPage::lastWord);
        terms.says("The LIVE page of a leaf is that which was written for it last", TermsPage::writtenLast);
        terms.says("(of those known since mount()).", TermsPage::knownSinceMount);
        terms.says("Records on live pages are DURABLE.", TermsPage::durable);
    }

    /** At mount() the latest SERIAL is that of a right page, or 0. */
    private static void rightness(String what, WeighRecorder x, boolean due) {
        x.mount();
        Expect.is(what + " is right", x.state(5) == 9 ? 1 : 0, due ? 1 : 0);
        Expect.is(what + " gives the cursor", x.state(6), due ? 2 : -1);
    }

    private static WeighRecorder onePage(int head) {
        WeighRecorder x = Chips.recorder();
        Chips.forge(x, 10, head, 9, Chips.chain(7989, 3, 1));
        return x;
    }

    private static void everyWordCounts() {
        WeighRecorder x = onePage(3);
        rightness("the page", x, true);
        for (int word = 0; word < 16; word++) {
            x.poke(10, word, 1 << (31 - 2 * word));
            rightness("the page with word " + word + " poked", x, false);
            x.poke(10, word, 1 << (31 - 2 * word));
        }
        rightness("the page poked back", x, true);
    }

    private static void nothingElseIsAsked() {
        WeighRecorder x = onePage(1);
        rightness("a page with words behind its records", x, true);
        Expect.is("one of them is a record", x.mount(), 1);
        Expect.is("and is sound", x.audit(1, 1), 0);
        for (int head : new int[] {2, 3, 5, 61, 63}) {
            Chips.set(x, 10, 0, head);
            Chips.mendSum(x, 10);
            Expect.is("a live page that says " + head + " is right", x.audit(1, 1), 0);
        }
    }

    private static void heads() {
        for (int head = -4; head <= 72; head++) {
            rightness("word 0: " + head, onePage(head), head >= 0 && head < 64 && head % 4 != 0);
        }
        for (int head : new int[] {Chips.LEAST, Chips.LEAST + 1, Chips.GREATEST, 1 << 30 | 1, -61, -63}) {
            rightness("word 0: " + head, onePage(head), false);
        }
    }

    private static void sum() {
        WeighRecorder x = onePage(3);
        for (int bit = 0; bit < 32; bit += 31) {
            x.poke(10, 14, 1 << bit);
            rightness("bit " + bit + " of the sum poked: the page", x, false);
            x.poke(10, 14, 1 << bit);
        }
        Chips.set(x, 10, 14, 7989);
        rightness("the sum of none: the page", x, false);
        Chips.set(x, 10, 1, 10);
        Chips.set(x, 10, 1, 9);
        Chips.mendSum(x, 10);
        rightness("the sum mended: the page", x, true);
    }

    private static void lastWord() {
        WeighRecorder x = onePage(3);
        for (int bit = 0; bit < 32; bit += 31) {
            x.poke(10, 15, 1 << bit);
            rightness("bit " + bit + " of the last word poked: the page", x, false);
            x.poke(10, 15, 1 << bit);
        }
        Chips.set(x, 10, 15, -1);
        rightness("the last word not written: the page", x, false);
    }

    private static void writtenLast() {
        WeighRecorder x = Chips.recorder();
        Chips.weighAndSync(x, 1);
        Chips.weighAndSync(x, 2);
        Expect.is("one page is live", x.state(3), 1);
        x.poke(0, 2, 1);
        Expect.is("the page written first is not", x.audit(1, 2), 0);
        x.poke(1, 2, 1);
        Expect.is("the page written last is", x.audit(1, 2), 1);
        Chips.weigh(x, 3);
        Expect.is("another one is now", x.audit(1, 3), 0);
        Chips.set(x, 0, 2, 1);
        Chips.set(x, 0, 1, 99);
        Chips.mendSum(x, 0);
        x.poke(0, 15, 1);
        Expect.is("a greater SERIAL does not make a page live", x.audit(1, 3), 0);
    }

    private static void knownSinceMount() {
        WeighRecorder x = Chips.recorder();
        Chips.weighAndSync(x, 1);
        Chips.weighAndSync(x, 2);
        x.poke(1, 2, 1);
        Expect.is("not right, but live until mount()", x.audit(1, 2), 1);
        Expect.is("both tickets are there", x.state(2), 2);
        Expect.is("mount() knows the other page alone", x.mount(), 1);
        Expect.is("which is live", x.state(3), 1);
        Expect.is("and right", x.audit(1, 1), 0);
        x.poke(0, 2, 1);
        x.poke(1, 2, 1);
        Expect.is("a page that is right again is not known", x.audit(1, 1), 1);
        Expect.is("until mount()", x.mount(), 2);
    }

    private static void durable() {
        WeighRecorder x = Chips.tickets(2);
        Expect.is("records in the log alone", x.state(1), 0);
        x.sync();
        Expect.is("two on a live page", x.state(1), 2);
        x.annul(1, 0);
        Expect.is("three on a live page", x.state(1), 3);
        Chips.weigh(x, 3);
        Expect.is("one more in the log", x.state(1), 3);
        x.poke(2, 0, 1);
        x.failBlock(7);
        Expect.is("a poke elsewhere", x.state(1), 3);
        x.mount();
        Expect.is("those found again", x.state(1), 3);
        Expect.is("are all that are there", x.state(0), 3);
    }
}
