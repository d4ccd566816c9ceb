final class Promise14Crash {
    private Promise14Crash() {
    }

    static void run() {
        Document promise = Document.part("Promise 14: crash");
        promise.says("Power is off then.", Promise14Crash::whileOn);
        promise.says("Power is off then.", Promise14Crash::whileOff);
        promise.says("Power is off then.", Promise14Crash::theChipStays);
    }

    private static void whileOn() {
        WeighRecorder x = Chips.tickets(4);
        x.axle(1);
        x.crash();
        Chips.states("crashed", x, 0, 0, 0, 0, 0, 0, -1, 31, 0);
    }

    private static void whileOff() {
        WeighRecorder x = Chips.tickets(3);
        x.crash();
        x.crash();
        Expect.is("power behind two", x.state(8), 0);
        Expect.is("mount()", x.mount(), 3);
        Chips.weigh(x, 4);
        x.cutAfter(1);
        x.sync();
        x.crash();
        Expect.is("power behind a cut and a crash", x.state(8), 0);
        Expect.is("mount()", x.mount(), 3);
    }

    private static void theChipStays() {
        WeighRecorder x = Chips.tickets(3);
        int[] before = Chips.page(x, 0);
        x.crash();
        Chips.samePage("crashed", x, 0, before);
        x.crash();
        Chips.samePage("crashed twice", x, 0, before);
    }
}
