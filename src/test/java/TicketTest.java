/** Promises 1 to 6: a new object, axle, close, annul, sync, ticket. */
public final class TicketTest {
    private static final int[] FAR = {Integer.MIN_VALUE, Integer.MAX_VALUE};

    public static void main(String[] args) {
        newObject();
        axleCounts();
        axleRefuses();
        closeNumbersTickets();
        closeRefusesArguments();
        closeDoesNothing();
        closeWithFullLog();
        annulVoids();
        annulRefuses();
        annulWithFullLog();
        recordsOnThePage();
        syncWritesTheLastLeaf();
        ticketDetails();
        ticketRefuses();
        Expect.end();
    }

    private static void newObject() {
        WeighRecorder x = new WeighRecorder();
        int[] due = {0, 0, 0, 0, 0, 0, -1, 32, 1};
        for (int what = 0; what < due.length; what++) {
            Expect.is("new: state(" + what + ")", x.state(what), due[what]);
        }
        for (int page = 0; page < 32; page++) {
            for (int word = 0; word < 16; word++) {
                Expect.is("new: word", x.word(page, word), -1);
            }
        }
        for (int block = 0; block < 8; block++) {
            Expect.is("new: wearOf", x.wearOf(block), 0);
        }
        WeighRecorder y = new WeighRecorder();
        y.axle(1);
        for (int product = 0; product < 40; product++) {
            Expect.is("new: no product is active", y.close(1, 0, product, 0), 0);
        }
        Expect.is("new: mount()", y.mount(), 0);
    }

    private static void axleCounts() {
        WeighRecorder x = Chips.recorder();
        for (int i = 1; i <= 9; i++) {
            Expect.is("axle", x.axle(i == 1 ? 1 : 1200), i);
        }
        Expect.badState("the tenth reading", () -> x.axle(1));
        Expect.badArgument("the tenth reading, and wrong", () -> x.axle(0));
        Expect.is("nine readings", x.state(4), 9);
        Expect.is("close", x.close(1, 0, 3, 0), 1);
        Expect.is("gross of nine", x.ticket(1, 1), (1 + 8 * 1200) * 20);
        Expect.is("readings are gone", x.state(4), 0);
        Expect.is("axle starts again", x.axle(7), 1);
        x.close(1, 0, 3, 0);
        Expect.is("gross of one", x.ticket(2, 1), 140);
    }

    private static void axleRefuses() {
        WeighRecorder x = Chips.recorder();
        for (int steps : new int[] {0, -1, 1201, FAR[0], FAR[1]}) {
            Expect.badArgument("axle(" + steps + ")", () -> x.axle(steps));
        }
        Expect.is("no reading", x.state(4), 0);
        x.crash();
        Expect.badState("axle while off", () -> x.axle(1));
        Expect.badArgument("axle(0) while off", () -> x.axle(0));
        x.mount();
        Expect.is("axle behind mount", x.axle(1), 1);
    }

    private static void closeNumbersTickets() {
        WeighRecorder x = Chips.recorder();
        for (int number = 1; number <= 7; number++) {
            Expect.is("close", Chips.weigh(x, number), number);
        }
        x.annul(2, 0);
        Expect.is("voidings have no number", Chips.weigh(x, 8), 8);
        x.axle(1200);
        Expect.is("tare may be the gross weight", x.close(-1, 24000, 3, 67108863), 9);
    }

    private static void closeRefusesArguments() {
        WeighRecorder x = Chips.recorder();
        x.setProduct(0, true);
        x.setProduct(39, true);
        int[][] bad = {{-1, 3, 0}, {216001, 3, 0}, {0, -1, 0}, {0, 40, 0}, {0, 3, -1}, {0, 3, 67108864},
            {FAR[0], 3, 0}, {FAR[1], 3, 0}, {0, FAR[0], 0}, {0, FAR[1], 0}, {0, 3, FAR[0]}, {0, 3, FAR[1]}};
        for (int round = 0; round < 3; round++) {
            for (int[] b : bad) {
                Expect.badArgument("close, round " + round, () -> x.close(1, b[0], b[1], b[2]));
            }
            if (round == 0) {
                x.axle(1200);
            } else {
                x.crash();
            }
        }
        Expect.badState("close while off", () -> x.close(1, 0, 3, 0));
        x.mount();
        for (int i = 0; i < 9; i++) {
            x.axle(1200);
        }
        Expect.is("the greatest of all", x.close(FAR[1], 216000, 39, 67108863), 1);
        x.axle(1);
        Expect.is("the least of all", x.close(FAR[0], 0, 0, 0), 2);
    }

    private static void closeDoesNothing() {
        WeighRecorder x = Chips.recorder();
        Expect.is("no readings", x.close(1, 0, 3, 0), 0);
        x.axle(10);
        x.axle(5);
        Expect.is("product not active", x.close(1, 0, 4, 0), 0);
        Expect.is("tare above gross", x.close(1, 301, 3, 0), 0);
        x.setProduct(3, false);
        Expect.is("product active no more", x.close(1, 0, 3, 0), 0);
        x.setProduct(3, true);
        Expect.is("readings stay", x.state(4), 2);
        Expect.is("no record", x.state(0), 0);
        Expect.is("tare is gross", x.close(1, 300, 3, 0), 1);
    }

    private static void closeWithFullLog() {
        WeighRecorder x = Chips.recorder();
        for (int number = 1; number <= 48; number++) {
            Expect.is("close to the full log", Chips.weigh(x, number), number);
        }
        Expect.is("the log is full", Chips.weigh(x, 49), 0);
        Expect.is("readings stay", x.state(4), 1);
        Expect.is("48 records", x.state(0), 48);
        Expect.is("all durable", x.state(1), 48);
        Expect.is("annul in a full log", x.annul(1, 0), 0);
        Expect.is("mount of a full log", x.mount(), 48);
        Expect.is("full behind mount", Chips.weigh(x, 49), 0);
    }

    private static void annulVoids() {
        WeighRecorder x = Chips.recorder();
        for (int number = 1; number <= 5; number++) {
            Chips.weigh(x, number);
        }
        for (int reason = 0; reason <= 3; reason++) {
            Expect.is("annul", x.annul(reason + 1, reason), 1);
            Expect.is("its reason", x.ticket(reason + 1, 5), reason + 1);
            Expect.is("annul again", x.annul(reason + 1, 3 - reason), 0);
            Expect.is("its reason stays", x.ticket(reason + 1, 5), reason + 1);
        }
        Expect.is("the last one is not voided", x.ticket(5, 5), 0);
        Expect.is("nine records", x.state(0), 9);
        Expect.is("five tickets", x.state(2), 5);
        Expect.is("all are durable", x.state(1), 9);
        x.mount();
        for (int reason = 0; reason <= 3; reason++) {
            Expect.is("reason behind mount", x.ticket(reason + 1, 5), reason + 1);
            Expect.is("annul behind mount", x.annul(reason + 1, 0), 0);
        }
        Expect.is("not voided behind mount", x.ticket(5, 5), 0);
    }

    private static void annulRefuses() {
        WeighRecorder x = Chips.recorder();
        Chips.weigh(x, 1);
        for (int reason : new int[] {-1, 4, FAR[0], FAR[1]}) {
            Expect.badArgument("annul(1, " + reason + ")", () -> x.annul(1, reason));
        }
        for (int number : new int[] {0, -1, 2, FAR[0], FAR[1]}) {
            Expect.is("annul(" + number + ")", x.annul(number, 0), 0);
            Expect.badArgument("no ticket, no reason", () -> x.annul(number, 4));
        }
        Expect.is("no record more", x.state(0), 1);
        x.crash();
        Expect.badState("annul while off", () -> x.annul(1, 0));
        Expect.badArgument("wrong annul while off", () -> x.annul(1, 4));
    }

    private static void annulWithFullLog() {
        WeighRecorder x = Chips.recorder();
        for (int number = 1; number <= 24; number++) {
            Chips.weigh(x, number);
        }
        for (int number = 1; number <= 23; number++) {
            Expect.is("annul to the full log", x.annul(number, 1), 1);
        }
        Expect.is("the last record", x.annul(24, 2), 1);
        Expect.is("a full log", x.state(0), 48);
        Expect.is("mount", x.mount(), 24);
        Expect.is("the last voiding is there", x.ticket(24, 5), 3);
    }

    private static void recordsOnThePage() {
        WeighRecorder x = Chips.recorder();
        x.setProduct(39, true);
        for (int i = 0; i < 9; i++) {
            x.axle(1200);
        }
        x.close(-5, 216000, 39, 67108863);
        x.sync();
        int[] first = {-5, 10800 * 262144 + 216000, 39 * 67108864 + 67108863, 7989};
        int[] page = {1, 1, first[0], first[1], first[2], first[3], 0, 0, 0, 0, 0, 0, 0, 0, 0, Chips.MARK};
        page[14] = Chips.sum(java.util.Arrays.copyOf(page, 14));
        Chips.samePage("one record", x, 0, page);
        x.annul(1, 3);
        x.sync();
        page[0] = 2;
        page[1] = 2;
        int[] second = {1, 3, Chips.VOIDING, Chips.sum(first)};
        System.arraycopy(second, 0, page, 6, 4);
        page[14] = Chips.sum(java.util.Arrays.copyOf(page, 14));
        Chips.samePage("two records", x, 1, page);
        x.axle(2);
        x.close(6, 7, 3, 8);
        page[0] = 3;
        page[1] = 3;
        int[] third = {6, 2 * 262144 + 7, 3 * 67108864 + 8, Chips.sum(second)};
        System.arraycopy(third, 0, page, 10, 4);
        page[14] = Chips.sum(java.util.Arrays.copyOf(page, 14));
        Chips.samePage("three records", x, 2, page);
        Chips.weigh(x, 9);
        x.sync();
        int[] next = {5, 4, 9, 50 * 262144 + 100, 3 * 67108864 + 1500, Chips.sum(third), 0, 0, 0, 0, 0, 0, 0, 0, 0,
            Chips.MARK};
        next[14] = Chips.sum(java.util.Arrays.copyOf(next, 14));
        Chips.samePage("the next leaf, with zeros behind its record", x, 3, next);
    }

    private static void syncWritesTheLastLeaf() {
        WeighRecorder x = Chips.recorder();
        Expect.is("sync of nothing", x.sync(), 1);
        Expect.is("nothing written", x.state(7), 32);
        Chips.weigh(x, 1);
        Expect.is("not durable", x.state(1), 0);
        Expect.is("sync", x.sync(), 1);
        Expect.is("durable", x.state(1), 1);
        Expect.is("sync again", x.sync(), 1);
        Expect.is("written once", x.state(7), 31);
        Chips.weigh(x, 2);
        Expect.is("the first one is durable", x.state(1), 1);
        Chips.weigh(x, 3);
        Expect.is("the third one writes its leaf", x.state(1), 3);
        Expect.is("sync of a full leaf", x.sync(), 1);
        Expect.is("two pages", x.state(7), 30);
        x.crash();
        Expect.badState("sync while off", x::sync);
        Expect.is("mount", x.mount(), 3);
    }

    private static void ticketDetails() {
        WeighRecorder x = Chips.recorder();
        x.setProduct(39, true);
        x.setProduct(0, true);
        for (int i = 0; i < 9; i++) {
            x.axle(1200);
        }
        x.close(FAR[0], 215999, 39, 67108863);
        x.axle(1);
        x.close(FAR[1], 0, 0, 0);
        x.annul(2, 1);
        int link = Chips.sum(FAR[0], 10800 * 262144 + 215999, 39 * 67108864 + 67108863, 7989);
        int[][] due = {{FAR[0], 216000, 215999, 39, 67108863, 0, 7989}, {FAR[1], 20, 0, 0, 0, 2, link}};
        for (int round = 0; round < 2; round++) {
            for (int number = 1; number <= 2; number++) {
                for (int what = 0; what <= 6; what++) {
                    Expect.is("ticket(" + number + ", " + what + ")", x.ticket(number, what), due[number - 1][what]);
                }
            }
            x.mount();
        }
    }

    private static void ticketRefuses() {
        WeighRecorder x = Chips.recorder();
        Expect.badIndex("no ticket", () -> x.ticket(1, 0));
        Chips.weigh(x, 1);
        x.annul(1, 0);
        for (int number : new int[] {0, -1, 2, FAR[0], FAR[1]}) {
            Expect.badIndex("ticket(" + number + ", 0)", () -> x.ticket(number, 0));
        }
        for (int what : new int[] {-1, 7, FAR[0], FAR[1]}) {
            Expect.badIndex("ticket(1, " + what + ")", () -> x.ticket(1, what));
        }
        x.poke(0, 2, 1);
        Expect.is("a ticket is read from the log", x.ticket(1, 0), 1);
        x.crash();
        Expect.badState("ticket while off", () -> x.ticket(1, 0));
        Expect.badState("wrong ticket while off", () -> x.ticket(9, 9));
    }
}
