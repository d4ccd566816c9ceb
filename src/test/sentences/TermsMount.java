/** MOUNT. */
final class TermsMount {
    private TermsMount() {
    }

    static void run() {
        Document terms = Document.part("Terms");
        terms.says("MOUNT: of each leaf the right page with the greatest SERIAL is live", TermsMount::greatestSerial);
        terms.says("SERIAL is live (of those alike the first one)", TermsMount::firstOfThoseAlike);
        terms.says("for leaves 0, 1, .. as long as there is one", TermsMount::upToAGap);
        terms.says("up to the first one with fewer than three records: the log is theirs.", TermsMount::shortLeaf);
        terms.says("up to the first one with fewer than three records: the log is theirs.", TermsMount::allLeaves);
        terms.says("The cursor is the block of the right page with the greatest SERIAL", TermsMount::cursor);
        terms.says("(the first one; none without right pages).", TermsMount::firstCursorOrNone);
        terms.says("A record whose third word has 63 in its upper six bits is a voiding", TermsMount::voidings);
        terms.says("(of a ticket ahead of it", TermsMount::voidingOfNoTicketAhead);
        terms.says("that was not voided", TermsMount::voidingOfAVoidedTicket);
        terms.says("with a reason 0 .. 3; otherwise it does nothing)", TermsMount::voidingWithAnotherReason);
        terms.says("others are tickets.", TermsMount::others);
        terms.says("No readings are there.", TermsMount::noReadings);
    }

    private static void greatestSerial() {
        WeighRecorder x = Chips.recorder();
        Chips.forge(x, 9, 1, 8, Chips.chain(7989, 1, 100));
        Chips.forge(x, 13, 1, 10, Chips.chain(7989, 1, 200));
        Chips.forge(x, 17, 1, 9, Chips.chain(7989, 1, 300));
        Expect.is("mount()", x.mount(), 1);
        Expect.is("the greatest", x.ticket(1, 0), 200);
        Expect.is("one is live", x.state(3), 1);
        x.poke(13, 15, 1);
        x.mount();
        Expect.is("that one is not right: the next one", x.ticket(1, 0), 300);
        x.poke(17, 14, 1);
        x.mount();
        Expect.is("nor is that", x.ticket(1, 0), 100);
        x.poke(9, 0, 64);
        Expect.is("none is right", x.mount(), 0);
        Chips.states("none is right", x, 0, 0, 0, 0, 0, 0, -1, 29, 1);
    }

    private static void firstOfThoseAlike() {
        WeighRecorder x = Chips.recorder();
        Chips.forge(x, 5, 1, 9, Chips.chain(7989, 1, 100));
        Chips.forge(x, 6, 2, 9, Chips.chain(7989, 2, 200));
        Chips.forge(x, 31, 3, 9, Chips.chain(7989, 3, 300));
        Expect.is("mount()", x.mount(), 1);
        Expect.is("the first one", x.ticket(1, 0), 100);
        x.poke(5, 2, 1);
        Expect.is("it is not right: the next one", x.mount(), 2);
        Expect.is("its plate", x.ticket(1, 0), 200);
    }

    private static void upToAGap() {
        WeighRecorder x = Chips.tickets(9);
        x.poke(1, 3, 1);
        Expect.is("leaf 1 is missing", x.mount(), 3);
        Chips.states("leaf 1 is missing", x, 3, 3, 3, 1, 0, 3, 0, 29, 1);
        x.poke(0, 3, 1);
        Expect.is("leaf 0 is missing", x.mount(), 0);
        Chips.states("leaf 0 is missing", x, 0, 0, 0, 0, 0, 3, 0, 29, 1);
        x.poke(0, 3, 1);
        x.poke(1, 3, 1);
        Expect.is("none is missing", x.mount(), 9);
    }

    private static void shortLeaf() {
        for (int count = 1; count <= 2; count++) {
            WeighRecorder x = Chips.recorder();
            int[] three = Chips.chain(7989, 3, 10);
            Chips.forge(x, 4, 3, 1, three);
            Chips.forge(x, 5, 4 + count, 2, Chips.chain(Chips.linkBehind(three), count, 13));
            Chips.forge(x, 6, 11, 3, three);
            Expect.is("up to the short leaf", x.mount(), 3 + count);
            Chips.states("mounted", x, 3 + count, 3 + count, 3 + count, 2, 0, 3, 1, 29, 1);
            Expect.is("audit", x.audit(1, 9), 0);
            for (int number = 4 + count; number <= 6; number++) {
                Expect.is("the log goes on there", Chips.weigh(x, number), number);
            }
            Expect.is("the leaf behind is found when that one is full", x.mount(), 9);
            Expect.is("but the chain is broken there", x.audit(1, 9), 7);
        }
        WeighRecorder y = Chips.recorder();
        Chips.forge(y, 0, 3, 1, Chips.chain(7989, 3, 10));
        Chips.forge(y, 1, 1, 2, Chips.chain(7989, 1, 20));
        Expect.is("a shorter page with a greater SERIAL", y.mount(), 1);
    }

    private static void allLeaves() {
        WeighRecorder x = Chips.tickets(47);
        x.annul(3, 1);
        x.crash();
        Expect.is("a full log", x.mount(), 47);
        Chips.states("a full log", x, 48, 48, 47, 16, 0, 16, 3, 16, 1);
        Expect.is("audit", x.audit(1, 48), 0);
        Expect.is("the last record", x.ticket(3, 5), 2);
        WeighRecorder y = Chips.tickets(47);
        y.sync();
        Expect.is("a log with two in its last leaf", y.mount(), 47);
        Expect.is("goes on", Chips.weigh(y, 48), 48);
        Expect.is("audit", y.audit(1, 48), 0);
    }

    private static void cursor() {
        WeighRecorder x = Chips.recorder();
        Chips.forge(x, 2, 3, 5, Chips.chain(7989, 3, 1));
        Chips.forge(x, 31, 40 + 1, 7, Chips.chain(7989, 1, 1));
        Chips.forge(x, 12, 7, 6, Chips.chain(7989, 3, 1));
        x.mount();
        Expect.is("a page that is not live", x.state(6), 7);
        x.failBlock(7);
        x.mount();
        Expect.is("a block that failed", x.state(6), 7);
        x.poke(31, 7, 1);
        x.mount();
        Expect.is("another one", x.state(6), 3);
        Chips.weighAndSync(x, 9);
        Expect.is("the next leaf is written there", x.word(13, 1), 7);
    }

    private static void firstCursorOrNone() {
        WeighRecorder x = Chips.recorder();
        Chips.forge(x, 14, 5, 7, Chips.chain(7989, 1, 1));
        Chips.forge(x, 21, 1, 7, Chips.chain(7989, 1, 1));
        x.mount();
        Expect.is("the first one of two alike", x.state(6), 3);
        x.poke(14, 0, 64);
        x.mount();
        Expect.is("the other one", x.state(6), 5);
        x.poke(21, 15, 64);
        x.mount();
        Expect.is("no right page", x.state(6), -1);
    }

    /** Three tickets, and behind them a leaf of three records. */
    private static WeighRecorder behindThreeTickets(int... records) {
        WeighRecorder x = Chips.recorder();
        Chips.forge(x, 0, 3, 1, Chips.chain(7989, 3, 10));
        Chips.forge(x, 1, 7, 2, records);
        x.mount();
        return x;
    }

    private static void voided(String what, WeighRecorder x, int... due) {
        Expect.is(what + ": tickets", x.state(2), due.length);
        for (int number = 1; number <= due.length; number++) {
            Expect.is(what + ": ticket(" + number + ", 5)", x.ticket(number, 5), due[number - 1]);
        }
    }

    private static void voidings() {
        WeighRecorder x = behindThreeTickets(1, 0, Chips.VOIDING, 0, 2, 1, -1, 0, 3, 3, Chips.VOIDING + 1, 0);
        voided("whatever its lower bits are", x, 1, 2, 4);
        Expect.is("records", x.state(0), 6);
        WeighRecorder y = Chips.tickets(3);
        for (int reason = 0; reason <= 2; reason++) {
            y.annul(reason + 1, reason + 1);
        }
        y.mount();
        voided("as they were made", y, 2, 3, 4);
    }

    private static void voidingOfNoTicketAhead() {
        int v = Chips.VOIDING;
        voided("0, -1 and 4", behindThreeTickets(0, 0, v, 0, -1, 0, v, 0, 4, 0, v, 0), 0, 0, 0);
        voided("far", behindThreeTickets(Chips.LEAST, 0, v, 0, Chips.GREATEST, 0, v, 0, 49, 0, v, 0), 0, 0, 0);
        WeighRecorder x = behindThreeTickets(4, 0, v, 0, 7, 262144, 0, 0, 5, 0, v, 0);
        voided("a ticket behind the voiding", x, 0, 0, 0, 0);
        Expect.is("can be voided", x.annul(4, 1), 1);
        voided("the ticket just ahead", behindThreeTickets(7, 262144, 0, 0, 4, 0, v, 0, 3, 2, v, 0), 0, 0, 3, 1);
    }

    private static void voidingOfAVoidedTicket() {
        int v = Chips.VOIDING;
        WeighRecorder x = behindThreeTickets(2, 3, v, 0, 2, 0, v, 0, 2, 1, v, 0);
        voided("the first reason stays", x, 0, 4, 0);
        Expect.is("records", x.state(0), 6);
    }

    private static void voidingWithAnotherReason() {
        int v = Chips.VOIDING;
        WeighRecorder x = behindThreeTickets(1, 4, v, 0, 2, -1, v, 0, 3, 3, v, 0);
        voided("4, -1 and 3", x, 0, 0, 4);
        Expect.is("records", x.state(0), 6);
        Expect.is("one that was not voided", x.annul(1, 0), 1);
        voided("far", behindThreeTickets(1, Chips.LEAST, v, 0, 2, Chips.GREATEST, v, 0, 2, 0, v, 0), 0, 1, 0);
    }

    private static void others() {
        WeighRecorder x = behindThreeTickets(8, -1, (62 << 26) + 5, 1, 9, 0, 31 << 26, 2, -1, 1, 0, 3);
        Expect.is("tickets", x.state(2), 6);
        Expect.is("product 62", x.ticket(4, 3), 62);
        Expect.is("its clock", x.ticket(4, 4), 5);
        Expect.is("its gross weight", x.ticket(4, 1), 16383 * 20);
        Expect.is("its tare", x.ticket(4, 2), 262143);
        Expect.is("its link", x.ticket(4, 6), 1);
        Expect.is("product 31", x.ticket(5, 3), 31);
        Expect.is("plate -1", x.ticket(6, 0), -1);
        Expect.is("the day of product 62", x.dayTotal(0, 62), 16383 * 20 - 262143);
    }

    private static void noReadings() {
        WeighRecorder x = Chips.recorder();
        x.axle(5);
        x.axle(6);
        x.mount();
        Expect.is("readings", x.state(4), 0);
        Expect.is("close", x.close(1, 0, 3, 0), 0);
        Chips.weigh(x, 1);
        Expect.is("their steps are gone too", x.ticket(1, 1), 1000);
    }
}
