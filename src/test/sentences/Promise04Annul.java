final class Promise04Annul {
    private Promise04Annul() {
    }

    static void run() {
        Document promise = Document.part("Promise 4: annul");
        promise.says("A voiding of a ticket: 1.", Promise04Annul::voids);
        promise.says("A voiding of a ticket: 1.", Promise04Annul::voidsTheFirstAndTheLast);
        promise.says("0, nothing being done: there is no such ticket", Promise04Annul::noSuchTicket);
        promise.says("it is voided", Promise04Annul::voidedBefore);
        promise.says("or there are 48 records.", Promise04Annul::fullLog);
        promise.says("-1, -2 likewise.", Promise04Annul::wornOut);
        promise.says("-1, -2 likewise.", Promise04Annul::powerWentOff);
        promise.says("IllegalArgumentException: the reason is not 0 .. 3.", Promise04Annul::refusesOtherReasons);
        promise.says("IllegalArgumentException: the reason is not 0 .. 3.", Promise04Annul::argumentIsNamedFirst);
        promise.says("IllegalStateException: power is off.", Promise04Annul::refusesWhileOff);
    }

    private static void voids() {
        WeighRecorder x = Chips.tickets(5);
        for (int reason = 0; reason <= 3; reason++) {
            Expect.is("annul", x.annul(reason + 1, reason), 1);
            Expect.is("its reason and one", x.ticket(reason + 1, 5), reason + 1);
            Expect.is("a record more", x.state(0), 6 + reason);
            Expect.is("no ticket more", x.state(2), 5);
        }
        Expect.is("the fifth one is not voided", x.ticket(5, 5), 0);
        x.axle(1);
        x.annul(5, 0);
        Expect.is("readings stay", x.state(4), 1);
    }

    private static void voidsTheFirstAndTheLast() {
        WeighRecorder x = Chips.tickets(46);
        Expect.is("the last ticket", x.annul(46, 3), 1);
        Expect.is("the first ticket, the 48th record", x.annul(1, 2), 1);
        Expect.is("mount()", x.mount(), 46);
        Expect.is("the last one", x.ticket(46, 5), 4);
        Expect.is("the first one", x.ticket(1, 5), 3);
    }

    private static void noSuchTicket() {
        WeighRecorder x = Chips.recorder();
        Chips.answersAndDoesNothing("of an empty log", x, 0, () -> x.annul(1, 0));
        Chips.weigh(x, 1);
        Chips.weigh(x, 2);
        x.annul(2, 0);
        // The third record is there, but it is a voiding.
        for (int number : new int[] {0, -1, 3, 4, Chips.LEAST, Chips.GREATEST}) {
            Chips.answersAndDoesNothing("annul(" + number + ", 0)", x, 0, () -> x.annul(number, 0));
        }
        Expect.is("the first one is not voided", x.ticket(1, 5), 0);
    }

    private static void voidedBefore() {
        WeighRecorder x = Chips.tickets(2);
        x.annul(1, 2);
        for (int reason = 0; reason <= 3; reason++) {
            int other = reason;
            Chips.answersAndDoesNothing("annul again", x, 0, () -> x.annul(1, other));
        }
        Expect.is("the first reason stays", x.ticket(1, 5), 3);
        x.mount();
        Chips.answersAndDoesNothing("annul again behind mount()", x, 0, () -> x.annul(1, 0));
        Expect.is("the first reason stays", x.ticket(1, 5), 3);
    }

    private static void fullLog() {
        WeighRecorder x = Chips.tickets(47);
        Expect.is("the 48th record", x.annul(1, 0), 1);
        Chips.answersAndDoesNothing("the 49th record", x, 0, () -> x.annul(2, 0));
        Expect.is("it is not voided", x.ticket(2, 5), 0);
        x.mount();
        Chips.answersAndDoesNothing("behind mount()", x, 0, () -> x.annul(2, 0));
    }

    private static void wornOut() {
        WeighRecorder x = Chips.recorderWithBlocks(0);
        for (int i = 1; i <= 4; i++) {
            Chips.weighAndSync(x, i);
        }
        Expect.is("a record that needs no page", x.annul(1, 1), 1);
        Chips.answersAndDoesNothing("the third one of its leaf", x, -1, () -> x.annul(2, 1));
        Expect.is("it is not voided", x.ticket(2, 5), 0);
    }

    private static void powerWentOff() {
        for (int n = 0; n <= 16; n++) {
            WeighRecorder x = Chips.tickets(2);
            x.sync();
            x.cutAfter(n);
            Expect.is("annul cut after " + n, x.annul(1, 2), n < 16 ? -2 : 1);
            Expect.is("power", x.state(8), n < 16 ? 0 : 1);
            Expect.is("mount()", x.mount(), 2);
            Expect.is("voided", x.ticket(1, 5), n < 16 ? 0 : 3);
        }
    }

    private static void refusesOtherReasons() {
        WeighRecorder x = Chips.tickets(2);
        for (int reason : new int[] {-1, 4, Chips.LEAST, Chips.GREATEST}) {
            Chips.badArgument("annul(1, " + reason + ")", x, () -> x.annul(1, reason));
        }
        Expect.is("the least reason", x.annul(1, 0), 1);
        Expect.is("the greatest reason", x.annul(2, 3), 1);
    }

    private static void argumentIsNamedFirst() {
        WeighRecorder x = Chips.wornOut();
        Chips.badArgument("no such ticket, worn out", x, () -> x.annul(6, 4));
        Chips.badArgument("a ticket, worn out", x, () -> x.annul(1, -1));
        x.crash();
        Chips.badArgument("while off", x, () -> x.annul(1, 4));
    }

    private static void refusesWhileOff() {
        WeighRecorder x = Chips.tickets(3);
        x.crash();
        Chips.badState("annul behind crash()", x, () -> x.annul(1, 0));
        Chips.badState("annul of no ticket", x, () -> x.annul(9, 0));
        Expect.is("mount()", x.mount(), 3);
        Expect.is("not voided", x.ticket(1, 5), 0);
        Chips.weigh(x, 4);
        x.cutAfter(0);
        x.sync();
        Chips.badState("annul behind a cut", x, () -> x.annul(1, 0));
    }
}
