final class Promise09Find {
    private Promise09Find() {
    }

    static void run() {
        Document promise = Document.part("Promise 9: find");
        promise.says("The least number from one on whose ticket has the plate", Promise09Find::leastNumber);
        promise.says("The least number from one on whose ticket has the plate", Promise09Find::anyPlate);
        promise.says("The least number from one on whose ticket has the plate", Promise09Find::voidedOnesToo);
        promise.says("0 without.", Promise09Find::without);
        promise.says("IllegalStateException: power is off.", Promise09Find::refusesWhileOff);
    }

    private static WeighRecorder plates(int... plates) {
        WeighRecorder x = Chips.recorder();
        for (int plate : plates) {
            Chips.weigh(x, plate);
        }
        return x;
    }

    private static void leastNumber() {
        WeighRecorder x = plates(7, 8, 7, 8, 7);
        int[] due = {1, 1, 1, 3, 3, 5, 5, 0};
        for (int from = -1; from <= 6; from++) {
            Expect.is("find(7, " + from + ")", x.find(7, from), due[from + 1]);
        }
        Expect.is("far ahead", x.find(8, Chips.LEAST), 2);
        Expect.is("the 48th", Chips.tickets(48).find(48, 48), 48);
    }

    private static void anyPlate() {
        WeighRecorder x = plates(Chips.LEAST, Chips.GREATEST, -1, 0);
        Expect.is("the least plate", x.find(Chips.LEAST, 1), 1);
        Expect.is("the greatest plate", x.find(Chips.GREATEST, 1), 2);
        Expect.is("plate -1", x.find(-1, 1), 3);
        Expect.is("plate 0", x.find(0, 1), 4);
    }

    private static void voidedOnesToo() {
        WeighRecorder x = plates(7, 7);
        x.annul(1, 0);
        Expect.is("a voided ticket", x.find(7, 1), 1);
    }

    private static void without() {
        WeighRecorder x = plates(7, 8);
        x.annul(2, 0);
        Expect.is("no such plate", x.find(9, 1), 0);
        Expect.is("a voiding's first word is no plate", x.find(2, 1), 0);
        Expect.is("only ahead of it", x.find(7, 2), 0);
        Expect.is("behind the last one", x.find(8, 3), 0);
        Expect.is("far behind", x.find(7, Chips.GREATEST), 0);
        Chips.weigh(x, 5);
        x.mount();
        Expect.is("one that was lost", x.find(5, 1), 0);
    }

    private static void refusesWhileOff() {
        WeighRecorder x = Chips.tickets(3);
        x.crash();
        Chips.badState("find behind crash()", x, () -> x.find(1, 1));
        Chips.badState("find of none", x, () -> x.find(9, 9));
        x.mount();
        Expect.is("find behind mount()", x.find(3, 1), 3);
    }
}
