final class Promise15Mount {
    private Promise15Mount() {
    }

    static void run() {
        Document promise = Document.part("Promise 15: mount");
        promise.says("Power goes off, if it was on, and MOUNT", Promise15Mount::whileOn);
        promise.says("Power goes off, if it was on, and MOUNT", Promise15Mount::whileOff);
        promise.says("how many tickets there are.", Promise15Mount::counts);
    }

    private static void whileOn() {
        WeighRecorder x = Chips.tickets(5);
        x.axle(1);
        Expect.is("what is not on the chip is lost", x.mount(), 3);
        Chips.states("mounted", x, 3, 3, 3, 1, 0, 1, 0, 31, 1);
        Expect.is("mount() once more", x.mount(), 3);
        Chips.states("mounted twice", x, 3, 3, 3, 1, 0, 1, 0, 31, 1);
    }

    private static void whileOff() {
        WeighRecorder x = Chips.tickets(5);
        x.crash();
        Expect.is("mount()", x.mount(), 3);
        Chips.states("mounted", x, 3, 3, 3, 1, 0, 1, 0, 31, 1);
        Expect.is("the log goes on", Chips.weigh(x, 4), 4);
    }

    private static void counts() {
        WeighRecorder x = new WeighRecorder();
        Expect.is("of a chip that was never written", x.mount(), 0);
        WeighRecorder y = Chips.tickets(2);
        y.annul(1, 0);
        y.annul(2, 0);
        y.sync();
        Expect.is("voidings are no tickets", y.mount(), 2);
        Expect.is("of a full chip", Chips.tickets(48).mount(), 48);
    }
}
