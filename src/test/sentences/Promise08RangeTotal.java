final class Promise08RangeTotal {
    private Promise08RangeTotal() {
    }

    static void run() {
        Document promise = Document.part("Promise 8: rangeTotal");
        promise.says("The net weights of tickets from a number to another one", Promise08RangeTotal::allRanges);
        promise.says("The net weights of tickets from a number to another one", Promise08RangeTotal::farRanges);
        promise.says("not voided.", Promise08RangeTotal::notVoided);
        promise.says("IllegalStateException: power is off.", Promise08RangeTotal::refusesWhileOff);
    }

    /** Net weights that tell of each sum which tickets are in it. */
    private static WeighRecorder fiveTickets() {
        WeighRecorder x = Chips.recorder();
        for (int number = 1; number <= 5; number++) {
            x.axle(10);
            x.close(number, 200 - (1 << number), 3, 0);
        }
        return x;
    }

    private static void allRanges() {
        WeighRecorder x = fiveTickets();
        for (int from = -1; from <= 7; from++) {
            for (int to = -1; to <= 7; to++) {
                long due = 0;
                for (int number = Math.max(1, from); number <= Math.min(5, to); number++) {
                    due += 1 << number;
                }
                Expect.is("rangeTotal(" + from + ", " + to + ")", x.rangeTotal(from, to), due);
            }
        }
    }

    private static void farRanges() {
        WeighRecorder x = fiveTickets();
        Expect.is("all", x.rangeTotal(Chips.LEAST, Chips.GREATEST), 62);
        Expect.is("the wrong way round", x.rangeTotal(Chips.GREATEST, Chips.LEAST), 0);
        Expect.is("ahead", x.rangeTotal(Chips.LEAST, Chips.LEAST), 0);
        Expect.is("behind", x.rangeTotal(Chips.GREATEST, Chips.GREATEST), 0);
        Expect.is("up to the first one", x.rangeTotal(Chips.LEAST, 1), 2);
        Expect.is("from the last one on", x.rangeTotal(5, Chips.GREATEST), 32);
        WeighRecorder full = Chips.tickets(48);
        Expect.is("all 48", full.rangeTotal(1, 48), 48 * 900);
        Expect.is("the 48th", full.rangeTotal(48, 49), 900);
    }

    private static void notVoided() {
        WeighRecorder x = fiveTickets();
        x.annul(1, 0);
        x.annul(3, 3);
        Expect.is("without two", x.rangeTotal(1, 5), 4 + 16 + 32);
        Expect.is("a voided one alone", x.rangeTotal(3, 3), 0);
        Expect.is("with its neighbours", x.rangeTotal(2, 4), 4 + 16);
        x.sync();
        x.mount();
        Expect.is("behind mount()", x.rangeTotal(1, 5), 4 + 16 + 32);
    }

    private static void refusesWhileOff() {
        WeighRecorder x = fiveTickets();
        x.crash();
        Chips.badState("rangeTotal behind crash()", x, () -> x.rangeTotal(1, 5));
        Chips.badState("rangeTotal of none", x, () -> x.rangeTotal(5, 1));
        x.mount();
        Expect.is("rangeTotal behind mount()", x.rangeTotal(1, 5), 2 + 4 + 8);
    }
}
