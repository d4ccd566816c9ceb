/** WORN OUT. */
final class TermsWornOut {
    private TermsWornOut() {
    }

    static void run() {
        Document terms = Document.part("Terms");
        terms.says("WORN OUT: what was asked is not done (a record not taken, readings stay)", TermsWornOut::close);
        terms.says("WORN OUT: what was asked is not done (a record not taken, readings stay)", TermsWornOut::annul);
        terms.says("and until mount()", TermsWornOut::untilMount);
        terms.says("close() and annul() that would be done", TermsWornOut::wouldBeDone);
        terms.says("close() and annul() that would be done", TermsWornOut::wouldNotBeDone);
        terms.says("and sync() with records that are not durable, answer -1.", TermsWornOut::sync);
    }

    /** The only block is full, and the next record is the third one of its leaf. */
    private static WeighRecorder nextRecordNeedsAPage() {
        WeighRecorder x = Chips.recorderWithBlocks(0);
        for (int i = 1; i <= 4; i++) {
            Chips.weighAndSync(x, i);
        }
        Chips.weigh(x, 5);
        return x;
    }

    private static void close() {
        WeighRecorder x = nextRecordNeedsAPage();
        x.axle(9);
        x.axle(8);
        Chips.answersAndDoesNothing("the third record of its leaf", x, -1, () -> x.close(6, 0, 3, 0));
        Chips.states("as before", x, 5, 4, 5, 2, 2, 4, 0, 0, 1);
        Expect.badIndex("no ticket", () -> x.ticket(6, 0));
        Expect.is("a reading more", x.axle(7), 3);
    }

    private static void annul() {
        WeighRecorder x = nextRecordNeedsAPage();
        x.axle(9);
        Chips.answersAndDoesNothing("the third record of its leaf", x, -1, () -> x.annul(2, 0));
        Chips.states("as before", x, 5, 4, 5, 2, 1, 4, 0, 0, 1);
        Expect.is("it is not voided", x.ticket(2, 5), 0);
    }

    private static void untilMount() {
        WeighRecorder x = Chips.wornOut();
        // A page that is free again does not help before mount().
        Chips.wipe(x, 0);
        Chips.answersAndDoesNothing("sync", x, -1, x::sync);
        x.axle(1);
        Chips.answersAndDoesNothing("close", x, -1, () -> x.close(6, 0, 3, 0));
        Expect.is("mount()", x.mount(), 4);
        Expect.is("a record that needs no page", Chips.weigh(x, 5), 5);
        Expect.is("sync at the page that is free", x.sync(), 1);
        Chips.weigh(x, 6);
        Expect.is("worn out again: close", x.state(0), 5);
        x.crash();
        Expect.is("mount() behind crash()", x.mount(), 5);
        Expect.is("annul that needs a page", x.annul(1, 0), -1);
    }

    private static void wouldBeDone() {
        WeighRecorder x = Chips.recorderWithBlocks(0);
        for (int i = 1; i <= 3; i++) {
            Chips.weighAndSync(x, i);
        }
        Chips.weighAndSync(x, 4);
        Chips.weigh(x, 5);
        Expect.is("sync", x.sync(), -1);
        x.mount();
        Expect.is("a record that needs no page is taken", Chips.weigh(x, 5), 5);
        Expect.is("sync", x.sync(), -1);
        x.axle(1);
        Chips.answersAndDoesNothing("close, the third one of its leaf", x, -1, () -> x.close(6, 0, 3, 0));
        Chips.answersAndDoesNothing("annul", x, -1, () -> x.annul(1, 0));
        WeighRecorder y = firstOfItsLeafWornOut();
        y.axle(1);
        Chips.answersAndDoesNothing("close, the second one of its leaf", y, -1, () -> y.close(6, 0, 3, 0));
        Chips.answersAndDoesNothing("annul, likewise", y, -1, () -> y.annul(1, 0));
    }

    /** Worn out with one record in the last leaf, so that the next one would need no page. */
    private static WeighRecorder firstOfItsLeafWornOut() {
        WeighRecorder x = Chips.fullOfLiveLeaves(Chips.recorderWithBlocks(2), 2);
        Chips.weigh(x, 13);
        Expect.is("sync", x.sync(), -1);
        return x;
    }

    private static void wouldNotBeDone() {
        WeighRecorder x = Chips.wornOut();
        Chips.answersAndDoesNothing("close without readings", x, 0, () -> x.close(6, 0, 3, 0));
        x.axle(1);
        Chips.answersAndDoesNothing("close of a product not active", x, 0, () -> x.close(6, 0, 4, 0));
        Chips.answersAndDoesNothing("close with too much tare", x, 0, () -> x.close(6, 21, 3, 0));
        Chips.answersAndDoesNothing("annul of no ticket", x, 0, () -> x.annul(6, 0));
        Chips.badArgument("close with a wrong clock", x, () -> x.close(6, 0, 3, -1));
        Chips.badArgument("annul with a wrong reason", x, () -> x.annul(1, 4));
        WeighRecorder y = Chips.recorderWithBlocks(0);
        for (int i = 1; i <= 4; i++) {
            Chips.weighAndSync(y, i);
        }
        y.annul(1, 1);
        Expect.is("sync", y.sync(), -1);
        Chips.answersAndDoesNothing("annul of one that is voided", y, 0, () -> y.annul(1, 0));
        Chips.answersAndDoesNothing("annul of one that is not", y, -1, () -> y.annul(2, 0));
    }

    private static void sync() {
        WeighRecorder x = Chips.wornOut();
        Chips.answersAndDoesNothing("sync with one that is not durable", x, -1, x::sync);
        WeighRecorder y = Chips.recorderWithBlocks(0);
        for (int i = 1; i <= 2; i++) {
            Chips.weighAndSync(y, i);
        }
        Chips.spoil(y, 2);
        Chips.spoil(y, 3);
        y.axle(1);
        Expect.is("close", y.close(3, 0, 3, 0), -1);
        Chips.answersAndDoesNothing("sync when all are durable", y, 1, y::sync);
        Chips.answersAndDoesNothing("close", y, -1, () -> y.close(3, 0, 3, 0));
    }
}
