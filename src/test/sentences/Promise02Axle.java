final class Promise02Axle {
    private Promise02Axle() {
    }

    static void run() {
        Document promise = Document.part("Promise 2: axle");
        promise.says("A reading of an axle, in steps of 20 kg (1 .. 1,200)", Promise02Axle::leastAndGreatest);
        promise.says("how many there are.", Promise02Axle::counts);
        promise.says("how many there are.", Promise02Axle::startsAgain);
        promise.says("IllegalArgumentException: it is not so.", Promise02Axle::refusesOtherSteps);
        promise.says("IllegalArgumentException: it is not so.", Promise02Axle::argumentIsNamedFirst);
        promise.says("IllegalStateException: power is off", Promise02Axle::refusesWhileOff);
        promise.says("or there are 9.", Promise02Axle::refusesTheTenth);
    }

    private static void leastAndGreatest() {
        WeighRecorder x = Chips.recorder();
        Expect.is("axle(1)", x.axle(1), 1);
        x.close(1, 0, 3, 0);
        Expect.is("gross of one step", x.ticket(1, 1), 20);
        Expect.is("axle(1200)", x.axle(1200), 1);
        x.close(1, 0, 3, 0);
        Expect.is("gross of 1200 steps", x.ticket(2, 1), 24000);
    }

    private static void counts() {
        WeighRecorder x = Chips.recorder();
        for (int i = 1; i <= 9; i++) {
            Expect.is("reading " + i, x.axle(700), i);
            Expect.is("readings", x.state(4), i);
        }
    }

    private static void startsAgain() {
        WeighRecorder x = Chips.recorder();
        x.axle(5);
        x.axle(6);
        Expect.is("close that does nothing", x.close(1, 0, 4, 0), 0);
        Expect.is("behind it", x.axle(7), 3);
        x.close(1, 0, 3, 0);
        Expect.is("behind a ticket", x.axle(8), 1);
        x.mount();
        Expect.is("behind mount()", x.axle(9), 1);
    }

    private static void refusesOtherSteps() {
        WeighRecorder x = Chips.recorder();
        x.axle(10);
        for (int steps : new int[] {0, -1, 1201, Chips.LEAST, Chips.GREATEST}) {
            Chips.badArgument("axle(" + steps + ")", x, () -> x.axle(steps));
        }
        x.close(1, 0, 3, 0);
        Expect.is("no step of a refused one is there", x.ticket(1, 1), 200);
    }

    private static void argumentIsNamedFirst() {
        WeighRecorder x = Chips.recorder();
        for (int i = 0; i < 9; i++) {
            x.axle(1);
        }
        Chips.badArgument("axle(0) with nine readings", x, () -> x.axle(0));
        x.crash();
        Chips.badArgument("axle(1201) while off", x, () -> x.axle(1201));
    }

    private static void refusesWhileOff() {
        WeighRecorder x = Chips.tickets(1);
        x.crash();
        Chips.badState("axle behind crash()", x, () -> x.axle(1));
        x.mount();
        Expect.is("axle behind mount()", x.axle(1), 1);
        x.close(1, 0, 3, 0);
        x.cutAfter(0);
        x.sync();
        Chips.badState("axle behind a cut", x, () -> x.axle(1200));
    }

    private static void refusesTheTenth() {
        WeighRecorder x = Chips.recorder();
        for (int i = 1; i <= 9; i++) {
            x.axle(i);
        }
        Chips.badState("the tenth reading", x, () -> x.axle(1));
        Chips.badState("once more", x, () -> x.axle(1200));
        Expect.is("close", x.close(1, 0, 3, 0), 1);
        Expect.is("gross of nine", x.ticket(1, 1), 45 * 20);
        Expect.is("there is room again", x.axle(1), 1);
    }
}
