final class Promise06Ticket {
    private Promise06Ticket() {
    }

    static void run() {
        Document promise = Document.part("Promise 6: ticket");
        promise.says("Of a ticket: 0 its plate", () -> detail(0, Chips.LEAST, Chips.GREATEST, -1));
        promise.says("1 gross weight in kg", () -> detail(1, 216000, 20, 24000));
        promise.says("2 tare", () -> detail(2, 216000, 0, 23999));
        promise.says("3 product", () -> detail(3, 39, 0, 32));
        promise.says("4 clock", () -> detail(4, 67108863, 0, 1));
        promise.says("5 whether it is voided (0; the reason and one)", () -> detail(5, 0, 4, 1));
        promise.says("6 its LINK.", () -> detail(6, 7989, LINK_OF_SECOND, LINK_OF_THIRD));
        promise.says("6 its LINK.", Promise06Ticket::linkBehindAVoiding);
        promise.says("IllegalStateException: power is off.", Promise06Ticket::refusesWhileOff);
        promise.says("IndexOutOfBoundsException: no such ticket", Promise06Ticket::noSuchTicket);
        promise.says("or what.", Promise06Ticket::noSuchWhat);
    }

    private static final int[] FIRST = {Chips.LEAST, 10800 * 262144 + 216000, 39 * 67108864 + 67108863, 7989};
    private static final int LINK_OF_SECOND = Chips.sum(FIRST);
    private static final int LINK_OF_THIRD = Chips.sum(Chips.GREATEST, 262144, 0, LINK_OF_SECOND);

    /** The greatest that a ticket may have, the least, and one between. */
    private static WeighRecorder threeTickets() {
        WeighRecorder x = new WeighRecorder();
        x.setProduct(39, true);
        x.setProduct(0, true);
        x.setProduct(32, true);
        for (int i = 0; i < 9; i++) {
            x.axle(1200);
        }
        x.close(Chips.LEAST, 216000, 39, 67108863);
        x.axle(1);
        x.close(Chips.GREATEST, 0, 0, 0);
        x.axle(1200);
        x.close(-1, 23999, 32, 1);
        x.annul(2, 3);
        x.annul(3, 0);
        return x;
    }

    private static void detail(int what, int first, int second, int third) {
        WeighRecorder x = threeTickets();
        x.sync();
        for (int round = 0; round < 2; round++) {
            Expect.is("ticket(1, " + what + ")", x.ticket(1, what), first);
            Expect.is("ticket(2, " + what + ")", x.ticket(2, what), second);
            Expect.is("ticket(3, " + what + ")", x.ticket(3, what), third);
            x.mount();
        }
    }

    private static void linkBehindAVoiding() {
        WeighRecorder x = Chips.tickets(1);
        int link = Chips.sum(1, 50 * 262144 + 100, 3 * 67108864 + 1500, 7989);
        x.annul(1, 2);
        Chips.weigh(x, 2);
        Expect.is("the voiding's sum", x.ticket(2, 6), Chips.sum(1, 2, Chips.VOIDING, link));
    }

    private static void refusesWhileOff() {
        WeighRecorder x = Chips.tickets(3);
        x.crash();
        Chips.badState("ticket behind crash()", x, () -> x.ticket(1, 0));
        Chips.badState("no such ticket, named behind it", x, () -> x.ticket(4, 0));
        Chips.badState("no such what, named behind it", x, () -> x.ticket(1, 7));
        x.mount();
        Chips.weigh(x, 4);
        x.cutAfter(0);
        x.sync();
        Chips.badState("ticket behind a cut", x, () -> x.ticket(1, 0));
    }

    private static void noSuchTicket() {
        WeighRecorder x = Chips.recorder();
        Chips.badIndex("of an empty log", x, () -> x.ticket(1, 0));
        Chips.weigh(x, 1);
        Chips.weigh(x, 2);
        x.annul(1, 0);
        for (int number : new int[] {0, -1, 3, Chips.LEAST, Chips.GREATEST}) {
            Chips.badIndex("ticket(" + number + ", 0)", x, () -> x.ticket(number, 0));
        }
        Expect.is("the last ticket", x.ticket(2, 0), 2);
        Chips.weigh(x, 3);
        x.mount();
        Chips.badIndex("one that was lost", x, () -> x.ticket(3, 0));
        WeighRecorder full = Chips.tickets(48);
        Expect.is("the 48th", full.ticket(48, 0), 48);
        Chips.badIndex("the 49th", full, () -> full.ticket(49, 0));
    }

    private static void noSuchWhat() {
        WeighRecorder x = Chips.tickets(1);
        for (int what : new int[] {-1, 7, Chips.LEAST, Chips.GREATEST}) {
            Chips.badIndex("ticket(1, " + what + ")", x, () -> x.ticket(1, what));
        }
    }
}
