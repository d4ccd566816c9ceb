final class Promise01NewObject {
    private Promise01NewObject() {
    }

    static void run() {
        Document promise = Document.part("Promise 1: A new object");
        promise.says("A chip that was never written", Promise01NewObject::noWordIsWritten);
        promise.says("A chip that was never written", Promise01NewObject::noBlockIsWornOrFailed);
        promise.says("an empty log.", Promise01NewObject::noRecords);
        promise.says("an empty log.", Promise01NewObject::objectsAreApart);
    }

    private static void noWordIsWritten() {
        WeighRecorder x = new WeighRecorder();
        for (int page = 0; page < 32; page++) {
            for (int word = 0; word < 16; word++) {
                Expect.is("word(" + page + ", " + word + ")", x.word(page, word), -1);
            }
        }
    }

    private static void noBlockIsWornOrFailed() {
        WeighRecorder x = new WeighRecorder();
        for (int block = 0; block < 8; block++) {
            Expect.is("wearOf(" + block + ")", x.wearOf(block), 0);
        }
        Expect.is("free pages of blocks that have not failed", x.state(7), 32);
        Expect.is("mount()", x.mount(), 0);
    }

    private static void noRecords() {
        WeighRecorder x = new WeighRecorder();
        Chips.states("new", x, 0, 0, 0, 0, 0, 0, -1, 32, 1);
        Expect.is("sync()", x.sync(), 1);
        Expect.is("annul(1, 0)", x.annul(1, 0), 0);
        Expect.badIndex("ticket(1, 0)", () -> x.ticket(1, 0));
        Expect.is("rangeTotal", x.rangeTotal(0, 48), 0);
        Expect.is("dayTotal", x.dayTotal(0, 0), 0);
        Expect.is("find", x.find(0, 0), 0);
        Expect.is("audit", x.audit(0, 48), 0);
        Expect.is("exportByte", x.exportByte(0, 48, 0), -1);
    }

    private static void objectsAreApart() {
        WeighRecorder x = Chips.tickets(4);
        x.axle(1);
        x.failBlock(6);
        WeighRecorder y = new WeighRecorder();
        Chips.states("a second object", y, 0, 0, 0, 0, 0, 0, -1, 32, 1);
        y.axle(1);
        Expect.is("a product that another object has active", y.close(1, 0, 3, 0), 0);
        y.crash();
        Chips.states("the first object", x, 4, 3, 4, 1, 1, 1, 0, 27, 1);
    }
}
