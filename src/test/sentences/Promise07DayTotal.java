final class Promise07DayTotal {
    private Promise07DayTotal() {
    }

    static void run() {
        Document promise = Document.part("Promise 7: dayTotal");
        promise.says("The net weights (gross less tare)", Promise07DayTotal::grossLessTare);
        promise.says("of tickets of a product", Promise07DayTotal::ofOneProduct);
        promise.says("not voided", Promise07DayTotal::notVoided);
        promise.says("whose clock by 1440 is the day", Promise07DayTotal::firstAndLastMinuteOfADay);
        promise.says("whose clock by 1440 is the day", Promise07DayTotal::noSuchDay);
        promise.says("in all.", Promise07DayTotal::all48);
        promise.says("IllegalStateException: power is off.", Promise07DayTotal::refusesWhileOff);
    }

    private static void weigh(WeighRecorder x, int steps, int tare, int product, int clock) {
        x.setProduct(product, true);
        x.axle(steps);
        x.close(1, tare, product, clock);
    }

    private static void grossLessTare() {
        WeighRecorder x = new WeighRecorder();
        Expect.is("of none", x.dayTotal(0, 0), 0);
        weigh(x, 100, 1, 0, 0);
        Expect.is("of one", x.dayTotal(0, 0), 1999);
        weigh(x, 1, 20, 0, 0);
        Expect.is("with one whose tare is its gross weight", x.dayTotal(0, 0), 1999);
        weigh(x, 1200, 0, 0, 0);
        Expect.is("of three", x.dayTotal(0, 0), 25999);
    }

    private static void ofOneProduct() {
        WeighRecorder x = new WeighRecorder();
        weigh(x, 1, 0, 0, 0);
        weigh(x, 2, 0, 1, 0);
        weigh(x, 4, 0, 39, 0);
        weigh(x, 8, 0, 39, 0);
        Expect.is("product 0", x.dayTotal(0, 0), 20);
        Expect.is("product 1", x.dayTotal(0, 1), 40);
        Expect.is("product 39", x.dayTotal(0, 39), 240);
        for (int product : new int[] {-1, 2, 38, 40, 64, Chips.LEAST, Chips.GREATEST}) {
            Expect.is("product " + product, x.dayTotal(0, product), 0);
        }
        x.setProduct(39, false);
        Expect.is("a product that is not active any more", x.dayTotal(0, 39), 240);
    }

    private static void notVoided() {
        WeighRecorder x = new WeighRecorder();
        weigh(x, 1, 0, 0, 0);
        weigh(x, 2, 0, 0, 0);
        x.annul(1, 0);
        Expect.is("one is voided", x.dayTotal(0, 0), 40);
        x.annul(2, 3);
        Expect.is("all are voided", x.dayTotal(0, 0), 0);
        x.sync();
        x.mount();
        Expect.is("behind mount()", x.dayTotal(0, 0), 0);
    }

    private static void firstAndLastMinuteOfADay() {
        WeighRecorder x = new WeighRecorder();
        weigh(x, 1, 0, 3, 0);
        weigh(x, 2, 0, 3, 1439);
        weigh(x, 4, 0, 3, 1440);
        weigh(x, 8, 0, 3, 2879);
        weigh(x, 16, 0, 3, 2880);
        weigh(x, 32, 0, 3, 67108319);
        weigh(x, 64, 0, 3, 67108320);
        weigh(x, 128, 0, 3, 67108863);
        Expect.is("day 0", x.dayTotal(0, 3), 60);
        Expect.is("day 1", x.dayTotal(1, 3), 240);
        Expect.is("day 2", x.dayTotal(2, 3), 320);
        Expect.is("the day before the last one", x.dayTotal(46602, 3), 640);
        Expect.is("the last day", x.dayTotal(46603, 3), 3840);
    }

    private static void noSuchDay() {
        WeighRecorder x = new WeighRecorder();
        weigh(x, 1, 0, 3, 0);
        weigh(x, 1, 0, 3, 67108863);
        for (int day : new int[] {-1, 1, 46602, 46604, 1440, Chips.LEAST, Chips.GREATEST}) {
            Expect.is("day " + day, x.dayTotal(day, 3), 0);
        }
    }

    private static void all48() {
        WeighRecorder x = Chips.recorder();
        for (int number = 1; number <= 48; number++) {
            for (int i = 0; i < 9; i++) {
                x.axle(1200);
            }
            x.close(1, 0, 3, 1439);
        }
        Expect.is("the greatest total", x.dayTotal(0, 3), 48L * 216000);
    }

    private static void refusesWhileOff() {
        WeighRecorder x = Chips.tickets(3);
        x.crash();
        Chips.badState("dayTotal behind crash()", x, () -> x.dayTotal(1, 3));
        Chips.badState("dayTotal of no day", x, () -> x.dayTotal(-1, 40));
        x.mount();
        Expect.is("dayTotal behind mount()", x.dayTotal(1, 3), 2700);
    }
}
