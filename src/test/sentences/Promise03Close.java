final class Promise03Close {
    private Promise03Close() {
    }

    static void run() {
        Document promise = Document.part("Promise 3: close");
        promise.says("A ticket of all readings (their sum; none are there then)", Promise03Close::takesAllReadings);
        promise.says("its number.", Promise03Close::numbers);
        promise.says("0, nothing being done: there are no readings", Promise03Close::withoutReadings);
        promise.says("the product is not active", Promise03Close::productNotActive);
        promise.says("the tare is above the gross weight", Promise03Close::tareAboveGross);
        promise.says("or there are 48 records.", Promise03Close::fullOfTickets);
        promise.says("or there are 48 records.", Promise03Close::fullWithVoidings);
        promise.says("-1: worn out", Promise03Close::wornOut);
        promise.says("-2: power went off.", Promise03Close::powerWentOff);
        promise.says("IllegalArgumentException: tare is not 0 .. 216,000", Promise03Close::tare);
        promise.says("product 0 .. 39", Promise03Close::product);
        promise.says("clock 0 .. 67,108,863.", Promise03Close::clock);
        promise.says("clock 0 .. 67,108,863.", Promise03Close::argumentIsNamedFirst);
        promise.says("IllegalStateException: power is off.", Promise03Close::refusesWhileOff);
    }

    private static void axles(WeighRecorder x, int count, int steps) {
        for (int i = 0; i < count; i++) {
            x.axle(steps);
        }
    }

    private static void takesAllReadings() {
        WeighRecorder x = Chips.recorder();
        x.axle(1);
        x.axle(1200);
        x.axle(30);
        Expect.is("close", x.close(1, 0, 3, 0), 1);
        Expect.is("the sum of three", x.ticket(1, 1), 1231 * 20);
        Expect.is("none are there", x.state(4), 0);
        axles(x, 9, 1200);
        Expect.is("close", x.close(1, 0, 3, 0), 2);
        Expect.is("the sum of nine", x.ticket(2, 1), 216000);
        x.axle(2);
        Expect.is("close, the third one of its leaf", x.close(1, 0, 3, 0), 3);
        Expect.is("that one alone", x.ticket(3, 1), 40);
        Expect.is("none are there", x.state(4), 0);
    }

    private static void numbers() {
        WeighRecorder x = Chips.recorder();
        for (int number = 1; number <= 7; number++) {
            Expect.is("close", Chips.weigh(x, 5), number);
        }
        x.annul(7, 0);
        x.annul(2, 0);
        Expect.is("voidings have no numbers", Chips.weigh(x, 5), 8);
        x.sync();
        x.mount();
        Expect.is("they go on behind mount()", Chips.weigh(x, 5), 9);
    }

    private static void withoutReadings() {
        WeighRecorder x = Chips.recorder();
        Chips.answersAndDoesNothing("close of a new object", x, 0, () -> x.close(1, 0, 3, 0));
        Chips.weigh(x, 1);
        Chips.answersAndDoesNothing("close behind a ticket", x, 0, () -> x.close(1, 0, 3, 0));
        x.axle(1);
        x.mount();
        Chips.answersAndDoesNothing("close behind mount()", x, 0, () -> x.close(1, 0, 3, 0));
    }

    private static void productNotActive() {
        WeighRecorder x = new WeighRecorder();
        x.axle(10);
        for (int product = 0; product < 40; product += 13) {
            int code = product;
            Chips.answersAndDoesNothing("no product is active", x, 0, () -> x.close(1, 0, code, 0));
        }
        x.setProduct(38, true);
        Chips.answersAndDoesNothing("another one is active", x, 0, () -> x.close(1, 0, 39, 0));
        x.setProduct(38, false);
        Chips.answersAndDoesNothing("it is not active any more", x, 0, () -> x.close(1, 0, 38, 0));
        x.setProduct(38, true);
        Expect.is("it is active again, the reading stayed", x.close(1, 0, 38, 0), 1);
        Expect.is("gross", x.ticket(1, 1), 200);
    }

    private static void tareAboveGross() {
        WeighRecorder x = Chips.recorder();
        x.axle(10);
        x.axle(5);
        Chips.answersAndDoesNothing("one kg too much", x, 0, () -> x.close(1, 301, 3, 0));
        Chips.answersAndDoesNothing("the greatest tare", x, 0, () -> x.close(1, 216000, 3, 0));
        Expect.is("as much as the gross weight", x.close(1, 300, 3, 0), 1);
        Expect.is("nothing is left", x.rangeTotal(1, 1), 0);
        x.axle(15);
        Expect.is("one kg less", x.close(1, 299, 3, 0), 2);
        Expect.is("one kg is left", x.rangeTotal(2, 2), 1);
    }

    private static void fullOfTickets() {
        WeighRecorder x = Chips.tickets(47);
        Expect.is("the 48th", Chips.weigh(x, 48), 48);
        x.axle(7);
        Chips.answersAndDoesNothing("the 49th", x, 0, () -> x.close(49, 0, 3, 0));
        Expect.is("its reading stays", x.state(4), 1);
        Expect.is("48 records", x.state(0), 48);
        Expect.is("mount()", x.mount(), 48);
        x.axle(7);
        Chips.answersAndDoesNothing("the 49th behind mount()", x, 0, () -> x.close(49, 0, 3, 0));
    }

    private static void fullWithVoidings() {
        WeighRecorder x = Chips.tickets(24);
        for (int number = 1; number <= 23; number++) {
            x.annul(number, 0);
        }
        Expect.is("the 48th record", Chips.weigh(x, 25), 25);
        x.axle(7);
        Chips.answersAndDoesNothing("the 49th record", x, 0, () -> x.close(26, 0, 3, 0));
    }

    private static void wornOut() {
        WeighRecorder x = Chips.recorderWithBlocks(0);
        for (int i = 1; i <= 4; i++) {
            Chips.weighAndSync(x, i);
        }
        Expect.is("a record that needs no page", Chips.weigh(x, 5), 5);
        x.axle(7);
        Chips.answersAndDoesNothing("the third one of its leaf", x, -1, () -> x.close(6, 0, 3, 0));
        Expect.is("its reading stays", x.state(4), 1);
    }

    private static void powerWentOff() {
        for (int n = 0; n <= 16; n++) {
            WeighRecorder x = Chips.tickets(2);
            x.axle(1);
            x.cutAfter(n);
            Expect.is("close cut after " + n, x.close(3, 0, 3, 0), n < 16 ? -2 : 3);
            Expect.is("power", x.state(8), n < 16 ? 0 : 1);
            Expect.is("mount()", x.mount(), n < 16 ? 0 : 3);
        }
    }

    private static void tare() {
        WeighRecorder x = Chips.recorder();
        axles(x, 9, 1200);
        for (int tare : new int[] {-1, 216001, Chips.LEAST, Chips.GREATEST}) {
            Chips.badArgument("tare " + tare, x, () -> x.close(1, tare, 3, 0));
        }
        Expect.is("the greatest tare", x.close(1, 216000, 3, 0), 1);
        Expect.is("is kept", x.ticket(1, 2), 216000);
        x.axle(1);
        Expect.is("the least tare", x.close(1, 0, 3, 0), 2);
        Expect.is("is kept", x.ticket(2, 2), 0);
    }

    private static void product() {
        WeighRecorder x = Chips.recorder();
        x.setProduct(0, true);
        x.setProduct(39, true);
        x.axle(1);
        for (int product : new int[] {-1, 40, Chips.LEAST, Chips.GREATEST}) {
            Chips.badArgument("product " + product, x, () -> x.close(1, 0, product, 0));
        }
        Expect.is("the greatest product", x.close(1, 0, 39, 0), 1);
        Expect.is("is kept", x.ticket(1, 3), 39);
        x.axle(1);
        Expect.is("the least product", x.close(1, 0, 0, 0), 2);
        Expect.is("is kept", x.ticket(2, 3), 0);
    }

    private static void clock() {
        WeighRecorder x = Chips.recorder();
        x.axle(1);
        for (int clock : new int[] {-1, 67108864, Chips.LEAST, Chips.GREATEST}) {
            Chips.badArgument("clock " + clock, x, () -> x.close(1, 0, 3, clock));
        }
        Expect.is("the greatest clock", x.close(1, 0, 3, 67108863), 1);
        Expect.is("is kept", x.ticket(1, 4), 67108863);
        x.axle(1);
        Expect.is("the least clock", x.close(1, 0, 3, 0), 2);
        Expect.is("is kept", x.ticket(2, 4), 0);
    }

    private static void argumentIsNamedFirst() {
        WeighRecorder x = Chips.wornOut();
        Chips.badArgument("without readings, worn out: tare", x, () -> x.close(1, -1, 4, 0));
        Chips.badArgument("without readings, worn out: product", x, () -> x.close(1, 0, 40, 0));
        Chips.badArgument("without readings, worn out: clock", x, () -> x.close(1, 0, 4, -1));
        x.crash();
        Chips.badArgument("while off: tare", x, () -> x.close(1, 216001, 3, 0));
        Chips.badArgument("while off: product", x, () -> x.close(1, 0, -1, 0));
        Chips.badArgument("while off: clock", x, () -> x.close(1, 0, 3, 67108864));
    }

    private static void refusesWhileOff() {
        WeighRecorder x = Chips.recorder();
        x.axle(1);
        x.crash();
        Chips.badState("close behind crash()", x, () -> x.close(1, 0, 3, 0));
        Chips.badState("close of a product that is not active", x, () -> x.close(1, 0, 4, 0));
        Expect.is("mount()", x.mount(), 0);
        Chips.weigh(x, 1);
        x.cutAfter(0);
        x.sync();
        Chips.badState("close behind a cut", x, () -> x.close(1, 0, 3, 0));
    }
}
