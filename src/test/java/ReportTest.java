/** Promises 7, 8, 9, 11 and 12: dayTotal, rangeTotal, find, exportByte, setProduct. */
public final class ReportTest {
    private static final int[] FAR = {Integer.MIN_VALUE, Integer.MAX_VALUE};

    public static void main(String[] args) {
        dayTotals();
        rangeTotals();
        finds();
        exports();
        exportOfForgedTickets();
        products();
        whileOff();
        Expect.end();
    }

    private static WeighRecorder fiveTickets() {
        WeighRecorder x = Chips.recorder();
        x.setProduct(0, true);
        int[][] tickets = {{7, 100, 10, 3, 0}, {-9, 200, 11, 3, 1439}, {7, 300, 12, 3, 1440},
            {5, 400, 13, 0, 1441}, {7, 500, 14, 3, 2879}};
        for (int[] t : tickets) {
            x.axle(t[1]);
            x.close(t[0], t[2], t[3], t[4]);
        }
        return x;
    }

    private static void dayTotals() {
        WeighRecorder x = fiveTickets();
        Expect.is("day 0", x.dayTotal(0, 3), 2000 - 10 + 4000 - 11);
        Expect.is("day 1", x.dayTotal(1, 3), 6000 - 12 + 10000 - 14);
        Expect.is("day 1, product 0", x.dayTotal(1, 0), 8000 - 13);
        Expect.is("day 0, product 0", x.dayTotal(0, 0), 0);
        for (int far : new int[] {-1, 2, FAR[0], FAR[1]}) {
            Expect.is("no such day", x.dayTotal(far, 3), 0);
            Expect.is("no such product", x.dayTotal(0, far), 0);
        }
        x.annul(5, 2);
        Expect.is("less what is voided", x.dayTotal(1, 3), 6000 - 12);
        x.axle(1);
        x.close(1, 0, 3, 67108863);
        Expect.is("the last day", x.dayTotal(46603, 3), 20);
        Expect.is("the day before", x.dayTotal(46602, 3), 0);
    }

    private static void rangeTotals() {
        WeighRecorder x = fiveTickets();
        long[] net = {2000 - 10, 4000 - 11, 6000 - 12, 8000 - 13, 10000 - 14};
        for (int from = -1; from <= 7; from++) {
            for (int to = -1; to <= 7; to++) {
                long due = 0;
                for (int number = 1; number <= 5; number++) {
                    due += number >= from && number <= to ? net[number - 1] : 0;
                }
                Expect.is("rangeTotal(" + from + ", " + to + ")", x.rangeTotal(from, to), due);
            }
        }
        long all = net[0] + net[1] + net[2] + net[3] + net[4];
        Expect.is("all", x.rangeTotal(FAR[0], FAR[1]), all);
        Expect.is("none", x.rangeTotal(FAR[1], FAR[0]), 0);
        Expect.is("none behind", x.rangeTotal(FAR[1], FAR[1]), 0);
        x.annul(3, 0);
        Expect.is("less what is voided", x.rangeTotal(0, 9), all - net[2]);
        Expect.is("voided alone", x.rangeTotal(3, 3), 0);
    }

    private static void finds() {
        WeighRecorder x = fiveTickets();
        int[] due = {1, 1, 3, 3, 5, 5, 0};
        for (int from = 0; from <= 6; from++) {
            Expect.is("find(7, " + from + ")", x.find(7, from), due[from]);
        }
        Expect.is("find(-9, far ahead)", x.find(-9, FAR[0]), 2);
        Expect.is("find(7, far behind)", x.find(7, FAR[1]), 0);
        Expect.is("no such plate", x.find(8, 1), 0);
        x.annul(1, 0);
        Expect.is("a voided one is found", x.find(7, 1), 1);
        Expect.is("a voiding is no ticket", x.find(1, 1), 0);
    }

    private static String exported(WeighRecorder x, int from, int to) {
        StringBuilder text = new StringBuilder();
        for (int i = 0; i < 2000; i++) {
            int b = x.exportByte(from, to, i);
            if (b == -1) {
                return text.toString();
            }
            text.append((char) b);
        }
        return "without an end";
    }

    private static void exports() {
        WeighRecorder x = fiveTickets();
        x.annul(2, 3);
        x.axle(1);
        x.close(FAR[0], 20, 0, 5);
        String[] lines = {"1 7 1990 3\n", "2 -9 3989 3 V\n", "3 7 5988 3\n", "4 5 7987 0\n", "5 7 9986 3\n",
            "6 -2147483648 0 0\n"};
        Expect.same("all", exported(x, 1, 6), String.join("", lines));
        Expect.same("two", exported(x, 2, 3), lines[1] + lines[2]);
        Expect.same("far", exported(x, FAR[0], FAR[1]), String.join("", lines));
        Expect.same("none", exported(x, 3, 2), "");
        Expect.same("none behind", exported(x, 7, FAR[1]), "");
        Expect.same("none ahead", exported(x, FAR[0], 0), "");
        for (int i : new int[] {-1, FAR[0], FAR[1]}) {
            Expect.is("exportByte(1, 6, " + i + ")", x.exportByte(1, 6, i), -1);
        }
        WeighRecorder y = Chips.recorder();
        for (int i = 1; i <= 10; i++) {
            Chips.weigh(y, FAR[1]);
        }
        Expect.same("two digits", exported(y, 9, 10), "9 2147483647 900 3\n10 2147483647 900 3\n");
    }

    /** A poked page may have a tare above the gross weight and products that setProduct() does not know. */
    private static void exportOfForgedTickets() {
        WeighRecorder x = Chips.recorder();
        Chips.forge(x, 0, 2, 1, FAR[0], 262143, 62 << 26, 7989, -1, -1, (62 << 26) - 1, 5);
        Expect.is("mount", x.mount(), 2);
        Expect.same("forged", exported(x, 1, 2), "1 -2147483648 -262143 62\n2 -1 65517 61\n");
        Expect.is("dayTotal of a forged product", x.dayTotal(0, 62), -262143);
        Expect.is("rangeTotal of forged ones", x.rangeTotal(1, 2), -262143 + 65517);
    }

    private static void products() {
        WeighRecorder x = new WeighRecorder();
        for (int code : new int[] {-1, 40, FAR[0], FAR[1]}) {
            Expect.badArgument("setProduct(" + code + ")", () -> x.setProduct(code, true));
        }
        x.crash();
        x.setProduct(0, true);
        x.setProduct(39, true);
        Expect.badArgument("setProduct while off", () -> x.setProduct(40, false));
        x.mount();
        x.axle(1);
        Expect.is("set while off", x.close(1, 0, 0, 0), 1);
        x.axle(1);
        Expect.is("another", x.close(1, 0, 1, 0), 0);
        Expect.is("the last one", x.close(1, 0, 39, 0), 2);
        x.mount();
        x.axle(1);
        Expect.is("kept over mount", x.close(1, 0, 39, 0), 1);
        x.setProduct(39, false);
        x.axle(1);
        Expect.is("no more", x.close(1, 0, 39, 0), 0);
        Expect.is("the other one still", x.close(1, 0, 0, 0), 2);
    }

    private static void whileOff() {
        WeighRecorder x = fiveTickets();
        x.crash();
        Expect.badState("dayTotal", () -> x.dayTotal(0, 3));
        Expect.badState("rangeTotal", () -> x.rangeTotal(1, 5));
        Expect.badState("find", () -> x.find(7, 1));
        Expect.badState("exportByte", () -> x.exportByte(1, 5, 0));
        Expect.badState("exportByte of none", () -> x.exportByte(1, 5, -1));
        Expect.badState("find of none", () -> x.find(8, 9));
    }
}
