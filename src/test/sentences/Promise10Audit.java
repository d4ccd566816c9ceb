final class Promise10Audit {
    private Promise10Audit() {
    }

    static void run() {
        Document promise = Document.part("Promise 10: audit");
        promise.says("The least number from one to another one whose ticket FAILS", Promise10Audit::allRanges);
        promise.says("The least number from one to another one whose ticket FAILS", Promise10Audit::farRanges);
        promise.says("0 without.", Promise10Audit::without);
        promise.says("IllegalStateException: power is off.", Promise10Audit::refusesWhileOff);
    }

    /** Nine tickets, of which 4, 5 and 6 fail. */
    private static WeighRecorder threeOfNineFail() {
        WeighRecorder x = Chips.tickets(9);
        x.poke(1, 1, 1);
        return x;
    }

    private static void allRanges() {
        WeighRecorder x = threeOfNineFail();
        for (int from = -1; from <= 10; from++) {
            for (int to = -1; to <= 10; to++) {
                int least = Math.max(from, 4);
                Expect.is("audit(" + from + ", " + to + ")", x.audit(from, to), least <= Math.min(to, 6) ? least : 0);
            }
        }
    }

    private static void farRanges() {
        WeighRecorder x = threeOfNineFail();
        Expect.is("all", x.audit(Chips.LEAST, Chips.GREATEST), 4);
        Expect.is("the wrong way round", x.audit(Chips.GREATEST, Chips.LEAST), 0);
        Expect.is("behind", x.audit(Chips.GREATEST, Chips.GREATEST), 0);
        WeighRecorder full = Chips.tickets(48);
        full.poke(15, 13, 1);
        Expect.is("of 48", full.audit(1, 48), 46);
        Expect.is("the 48th", full.audit(48, 49), 48);
    }

    private static void without() {
        WeighRecorder x = Chips.tickets(9);
        Expect.is("a sound chip", x.audit(1, 9), 0);
        x.poke(1, 1, 1);
        x.poke(1, 1, 1);
        Expect.is("poked and poked back", x.audit(1, 9), 0);
        x.mount();
        Expect.is("behind mount()", x.audit(1, 9), 0);
    }

    private static void refusesWhileOff() {
        WeighRecorder x = threeOfNineFail();
        x.crash();
        Chips.badState("audit behind crash()", x, () -> x.audit(1, 9));
        Chips.badState("audit of none", x, () -> x.audit(9, 1));
    }
}
