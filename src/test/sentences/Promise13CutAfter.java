final class Promise13CutAfter {
    private Promise13CutAfter() {
    }

    static void run() {
        Document promise = Document.part("Promise 13: cutAfter");
        promise.says("IllegalArgumentException: n is not 0 .. 300.", Promise13CutAfter::least);
        promise.says("IllegalArgumentException: n is not 0 .. 300.", Promise13CutAfter::greatest);
        promise.says("IllegalArgumentException: n is not 0 .. 300.", Promise13CutAfter::refusesOthers);
        promise.says("IllegalArgumentException: n is not 0 .. 300.", Promise13CutAfter::whileOff);
    }

    private static void least() {
        WeighRecorder x = Chips.tickets(1);
        x.cutAfter(0);
        Expect.is("power is on until there is a step", x.state(8), 1);
        Expect.is("sync", x.sync(), -2);
        Expect.is("no step was done", x.word(0, 0), -1);
    }

    private static void greatest() {
        WeighRecorder x = Chips.recorder();
        x.cutAfter(300);
        for (int i = 1; i <= 18; i++) {
            Expect.is("sync " + i, Chips.weighAndSync(x, i), 1);
        }
        Expect.is("the sixth leaf's page, ahead of the 301st step", x.state(5), 18);
        Chips.weigh(x, 19);
        Expect.is("the sync with the 301st step", x.sync(), -2);
        Expect.is("the 300th step", x.word(18, 11), 0);
        Expect.is("the 301st step", x.word(18, 12), -1);
        Expect.is("mount()", x.mount(), 18);
    }

    private static void refusesOthers() {
        WeighRecorder x = Chips.tickets(1);
        x.cutAfter(16);
        for (int n : new int[] {-1, 301, Chips.LEAST, Chips.GREATEST}) {
            Chips.badArgument("cutAfter(" + n + ")", x, () -> x.cutAfter(n));
        }
        Expect.is("what was told stays", x.sync(), 1);
        Chips.weigh(x, 2);
        Expect.is("16 steps, no more", x.sync(), -2);
        x.mount();
        Chips.badArgument("cutAfter(-1), nothing being told", x, () -> x.cutAfter(-1));
        Chips.weigh(x, 2);
        Expect.is("nothing is told", x.sync(), 1);
    }

    private static void whileOff() {
        WeighRecorder x = Chips.recorder();
        x.crash();
        Chips.badArgument("cutAfter(301) while off", x, () -> x.cutAfter(301));
        x.cutAfter(0);
        Expect.is("power stays off", x.state(8), 0);
    }
}
