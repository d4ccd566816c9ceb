final class Promise11ExportByte {
    private Promise11ExportByte() {
    }

    static void run() {
        Document promise = Document.part("Promise 11: exportByte");
        promise.says("Byte i of the text of the tickets from a number to another one", Promise11ExportByte::ranges);
        promise.says("of each one a line: number, a blank", Promise11ExportByte::numbersOfOneAndTwoDigits);
        promise.says("plate (with - when below 0), a blank", Promise11ExportByte::plates);
        promise.says("net weight, a blank", Promise11ExportByte::netWeights);
        promise.says("net weight, a blank", Promise11ExportByte::netWeightsBelowZero);
        promise.says("product", Promise11ExportByte::products);
        promise.says("and if it is voided a blank and V, byte 10.", Promise11ExportByte::voided);
        promise.says("-1 where there is none.", Promise11ExportByte::noSuchByte);
        promise.says("IllegalStateException: power is off.", Promise11ExportByte::refusesWhileOff);
    }

    private static String exported(WeighRecorder x, int from, int to) {
        StringBuilder text = new StringBuilder();
        for (int i = 0; i < 400; i++) {
            int b = x.exportByte(from, to, i);
            if (b == -1) {
                return text.toString();
            }
            text.append((char) b);
        }
        return text + "without an end";
    }

    private static String line(int plate, int steps, int tare, int product) {
        WeighRecorder x = new WeighRecorder();
        x.setProduct(product, true);
        for (int rest = steps; rest > 0; rest -= 1200) {
            x.axle(Math.min(rest, 1200));
        }
        x.close(plate, tare, product, 0);
        return exported(x, 1, 1);
    }

    private static void ranges() {
        WeighRecorder x = Chips.tickets(4);
        String[] lines = {"1 1 900 3\n", "2 2 900 3\n", "3 3 900 3\n", "4 4 900 3\n"};
        Expect.same("1 to 2", exported(x, 1, 2), lines[0] + lines[1]);
        Expect.same("2 to 3", exported(x, 2, 3), lines[1] + lines[2]);
        Expect.same("4 to 4", exported(x, 4, 4), lines[3]);
        Expect.same("ahead of 1", exported(x, -3, 1), lines[0]);
        Expect.same("behind 4", exported(x, 4, 9), lines[3]);
        Expect.same("far", exported(x, Chips.LEAST, Chips.GREATEST), String.join("", lines));
        Expect.same("3 to 2", exported(x, 3, 2), "");
        Expect.same("none ahead", exported(x, Chips.LEAST, 0), "");
        Expect.same("none behind", exported(x, 5, Chips.GREATEST), "");
    }

    private static void numbersOfOneAndTwoDigits() {
        WeighRecorder x = Chips.tickets(48);
        Expect.same("9 to 10", exported(x, 9, 10), "9 9 900 3\n10 10 900 3\n");
        Expect.same("48", exported(x, 48, 48), "48 48 900 3\n");
    }

    private static void plates() {
        Expect.same("the least", line(Chips.LEAST, 50, 0, 3), "1 -2147483648 1000 3\n");
        Expect.same("-10", line(-10, 50, 0, 3), "1 -10 1000 3\n");
        Expect.same("-1", line(-1, 50, 0, 3), "1 -1 1000 3\n");
        Expect.same("0", line(0, 50, 0, 3), "1 0 1000 3\n");
        Expect.same("9", line(9, 50, 0, 3), "1 9 1000 3\n");
        Expect.same("10", line(10, 50, 0, 3), "1 10 1000 3\n");
        Expect.same("999999999", line(999999999, 50, 0, 3), "1 999999999 1000 3\n");
        Expect.same("1000000000", line(1000000000, 50, 0, 3), "1 1000000000 1000 3\n");
        Expect.same("the greatest", line(Chips.GREATEST, 50, 0, 3), "1 2147483647 1000 3\n");
    }

    private static void netWeights() {
        Expect.same("the least", line(5, 1, 20, 3), "1 5 0 3\n");
        Expect.same("one", line(5, 1, 19, 3), "1 5 1 3\n");
        Expect.same("the greatest", line(5, 10800, 0, 3), "1 5 216000 3\n");
    }

    /** Only a page that was poked has a tare above the gross weight. */
    private static void netWeightsBelowZero() {
        WeighRecorder x = new WeighRecorder();
        Chips.forge(x, 0, 2, 1, 5, 262143, 3 * 67108864, 7989, 6, -1, 3 * 67108864, 0);
        x.mount();
        Expect.same("forged", exported(x, 1, 2), "1 5 -262143 3\n2 6 65517 3\n");
        x.annul(1, 0);
        Expect.same("and voided", exported(x, 1, 1), "1 5 -262143 3 V\n");
    }

    private static void products() {
        Expect.same("the least", line(5, 50, 0, 0), "1 5 1000 0\n");
        Expect.same("9", line(5, 50, 0, 9), "1 5 1000 9\n");
        Expect.same("10", line(5, 50, 0, 10), "1 5 1000 10\n");
        Expect.same("the greatest", line(5, 50, 0, 39), "1 5 1000 39\n");
    }

    private static void voided() {
        WeighRecorder x = Chips.tickets(2);
        x.annul(2, 0);
        Expect.same("voided behind", exported(x, 1, 2), "1 1 900 3\n2 2 900 3 V\n");
        x.annul(1, 3);
        Expect.same("both", exported(x, 1, 2), "1 1 900 3 V\n2 2 900 3 V\n");
        x.sync();
        x.mount();
        Expect.same("behind mount()", exported(x, 1, 2), "1 1 900 3 V\n2 2 900 3 V\n");
        WeighRecorder longest = Chips.tickets(46);
        Chips.weigh(longest, Chips.LEAST);
        longest.annul(47, 3);
        Expect.same("the longest line", exported(longest, 47, 47), "47 -2147483648 900 3 V\n");
    }

    private static void noSuchByte() {
        WeighRecorder x = Chips.tickets(2);
        Expect.is("the last byte of a line", x.exportByte(1, 1, 9), 10);
        Expect.is("behind it", x.exportByte(1, 1, 10), -1);
        Expect.is("the first byte of the next line", x.exportByte(1, 2, 10), '2');
        Expect.is("the last byte of all", x.exportByte(1, 2, 19), 10);
        for (int i : new int[] {-1, 20, Chips.LEAST, Chips.GREATEST}) {
            Expect.is("exportByte(1, 2, " + i + ")", x.exportByte(1, 2, i), -1);
        }
        Expect.is("of no ticket", x.exportByte(3, 48, 0), -1);
    }

    private static void refusesWhileOff() {
        WeighRecorder x = Chips.tickets(3);
        x.crash();
        Chips.badState("exportByte behind crash()", x, () -> x.exportByte(1, 3, 0));
        Chips.badState("exportByte of none", x, () -> x.exportByte(1, 3, -1));
        x.mount();
        Expect.is("exportByte behind mount()", x.exportByte(3, 3, 0), '3');
    }
}
