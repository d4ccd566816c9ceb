final class Promise12SetProduct {
    private Promise12SetProduct() {
    }

    static void run() {
        Document promise = Document.part("Promise 12: setProduct");
        promise.says("IllegalArgumentException: there is no such product.", Promise12SetProduct::leastAndGreatest);
        promise.says("IllegalArgumentException: there is no such product.", Promise12SetProduct::refusesOthers);
        promise.says("IllegalArgumentException: there is no such product.", Promise12SetProduct::whileOff);
    }

    /** Closes a ticket of a product, which is done if the product is active. */
    private static void isActive(WeighRecorder x, int code, boolean due) {
        int before = x.state(0);
        if (x.state(4) == 0) {
            x.axle(1);
        }
        Expect.is("close of product " + code, x.close(1, 0, code, 0) > 0 ? 1 : 0, due ? 1 : 0);
        Expect.is("records", x.state(0), before + (due ? 1 : 0));
    }

    private static void leastAndGreatest() {
        WeighRecorder x = new WeighRecorder();
        x.setProduct(0, true);
        x.setProduct(39, true);
        isActive(x, 0, true);
        isActive(x, 39, true);
        isActive(x, 1, false);
        isActive(x, 38, false);
        x.setProduct(0, true);
        isActive(x, 0, true);
        x.setProduct(0, false);
        isActive(x, 0, false);
        isActive(x, 39, true);
        x.setProduct(0, false);
        isActive(x, 0, false);
    }

    private static void refusesOthers() {
        WeighRecorder x = Chips.recorder();
        for (int code : new int[] {-1, 40, 63, Chips.LEAST, Chips.GREATEST}) {
            Chips.badArgument("setProduct(" + code + ", true)", x, () -> x.setProduct(code, true));
            Chips.badArgument("setProduct(" + code + ", false)", x, () -> x.setProduct(code, false));
        }
        isActive(x, 3, true);
        isActive(x, 0, false);
        isActive(x, 39, false);
    }

    private static void whileOff() {
        WeighRecorder x = Chips.recorder();
        x.crash();
        x.setProduct(3, false);
        x.setProduct(4, true);
        Chips.badArgument("setProduct(40, true) while off", x, () -> x.setProduct(40, true));
        x.mount();
        isActive(x, 3, false);
        isActive(x, 4, true);
    }
}
