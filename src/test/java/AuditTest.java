/** Promise 10: audit. */
public final class AuditTest {
    private static final int[] FAR = {Integer.MIN_VALUE, Integer.MAX_VALUE};

    public static void main(String[] args) {
        wholeLog();
        pageNotRight();
        everyWordOfAPage();
        wrongLink();
        wrongRecordBefore();
        acrossLeaves();
        voidingBefore();
        notDurable();
        stalePages();
        rightPageOfAnotherForm();
        whileOff();
        Expect.end();
    }

    private static WeighRecorder tickets(int count) {
        WeighRecorder x = Chips.recorder();
        for (int number = 1; number <= count; number++) {
            Chips.weigh(x, number);
        }
        return x;
    }

    private static void wholeLog() {
        WeighRecorder x = tickets(48);
        Expect.is("audit of all", x.audit(FAR[0], FAR[1]), 0);
        Expect.is("audit of none", x.audit(FAR[1], FAR[0]), 0);
        Expect.is("audit behind", x.audit(49, FAR[1]), 0);
        x.mount();
        Expect.is("audit behind mount", x.audit(1, 48), 0);
    }

    private static void pageNotRight() {
        WeighRecorder x = tickets(9);
        x.poke(1, 1, 1);
        int[] due = {4, 4, 4, 4, 4, 5, 6, 0, 0, 0, 0};
        for (int from = 0; from <= 10; from++) {
            Expect.is("audit(" + from + ", 9)", x.audit(from, 9), due[from]);
        }
        Expect.is("audit(1, 3)", x.audit(1, 3), 0);
        Expect.is("audit(1, 4)", x.audit(1, 4), 4);
        Expect.is("audit(6, 5)", x.audit(6, 5), 0);
        x.poke(1, 1, 1);
        Expect.is("mended", x.audit(1, 9), 0);
    }

    private static void everyWordOfAPage() {
        WeighRecorder x = tickets(3);
        for (int word = 0; word < 16; word++) {
            x.poke(0, word, 1 << (2 * word));
            Expect.is("word " + word + " is poked", x.audit(1, 3), 1);
            x.poke(0, word, 1 << (2 * word));
        }
        Expect.is("all poked back", x.audit(1, 3), 0);
        for (int head : new int[] {0, 64, 4, 60, -1, -61, 65, 67}) {
            Chips.set(x, 0, 0, head);
            Chips.mendSum(x, 0);
            Expect.is("head " + head, x.audit(1, 3), 1);
        }
    }

    private static void wrongLink() {
        WeighRecorder x = tickets(3);
        for (int place = 0; place < 3; place++) {
            x.poke(0, 5 + 4 * place, 4);
            Chips.mendSum(x, 0);
            Expect.is("link " + place, x.audit(1, 3), place + 1);
            Expect.is("that alone and the next one", x.audit(place + 3, 3), 0);
            x.poke(0, 5 + 4 * place, 4);
            Chips.mendSum(x, 0);
        }
        Expect.is("all mended", x.audit(1, 3), 0);
    }

    private static void wrongRecordBefore() {
        WeighRecorder x = tickets(3);
        for (int word = 2; word <= 4; word++) {
            x.poke(0, word, 4);
            Chips.mendSum(x, 0);
            Expect.is("the next one tells", x.audit(1, 3), 2);
            Expect.is("and that alone", x.audit(3, 3), 0);
            x.poke(0, word, 4);
        }
        Chips.mendSum(x, 0);
        x.poke(0, 10, 4);
        Chips.mendSum(x, 0);
        Expect.is("none behind the last one", x.audit(1, 3), 0);
    }

    private static void acrossLeaves() {
        WeighRecorder x = tickets(6);
        x.poke(0, 10, 1);
        Expect.is("the page is not right", x.audit(1, 6), 1);
        Expect.is("the next leaf's first one has another link", x.audit(4, 6), 4);
        Expect.is("its second one has not", x.audit(5, 6), 0);
        Chips.mendSum(x, 0);
        Expect.is("with the sum mended", x.audit(1, 6), 4);
        x.poke(0, 10, 1);
        Chips.mendSum(x, 0);
        x.poke(0, 2, 1);
        Expect.is("another record of the leaf before", x.audit(4, 6), 0);
    }

    private static void voidingBefore() {
        WeighRecorder x = tickets(1);
        x.annul(1, 2);
        Chips.weigh(x, 2);
        x.poke(0, 7, 1);
        Chips.mendSum(x, 0);
        Expect.is("the voiding's reason was poked", x.audit(1, 2), 2);
        x.poke(0, 7, 1);
        x.poke(0, 9, 1);
        Chips.mendSum(x, 0);
        Expect.is("its link was poked: the ticket behind tells", x.audit(1, 2), 2);
        x.annul(2, 0);
        x.sync();
        x.poke(1, 5, 1);
        Expect.is("a voiding itself is not told", x.audit(1, 1), 0);
    }

    private static void notDurable() {
        WeighRecorder x = tickets(3);
        Chips.weigh(x, 4);
        x.poke(0, 10, 1);
        Expect.is("not durable: it does not fail", x.audit(4, 4), 0);
        x.sync();
        Expect.is("durable: it fails", x.audit(4, 4), 4);
        Chips.weigh(x, 5);
        x.poke(1, 1, 1);
        Expect.is("one of a leaf is durable", x.audit(4, 5), 4);
        Expect.is("the other one is not", x.audit(5, 5), 0);
    }

    private static void stalePages() {
        WeighRecorder x = Chips.recorder();
        Chips.weighAndSync(x, 1);
        Chips.weighAndSync(x, 2);
        x.poke(0, 2, 1);
        Expect.is("page 0 is not live", x.audit(1, 2), 0);
        x.poke(1, 2, 1);
        Expect.is("page 1 is", x.audit(1, 2), 1);
        Chips.weigh(x, 3);
        Expect.is("page 2 is now", x.audit(1, 3), 0);
    }

    /** RIGHT is any leaf and any number of records; zeros behind the records are not asked. */
    private static void rightPageOfAnotherForm() {
        WeighRecorder x = Chips.recorder();
        Chips.weighAndSync(x, 1);
        for (int head : new int[] {2, 3, 5, 61, 63}) {
            Chips.set(x, 0, 0, head);
            Chips.mendSum(x, 0);
            Expect.is("head " + head, x.audit(1, 1), 0);
        }
        Chips.set(x, 0, 0, 1);
        x.poke(0, 13, 77);
        Chips.mendSum(x, 0);
        Expect.is("a word behind the records", x.audit(1, 1), 0);
        Expect.is("and mount takes it", x.mount(), 1);
    }

    private static void whileOff() {
        WeighRecorder x = tickets(3);
        x.crash();
        Expect.badState("audit", () -> x.audit(1, 3));
        Expect.badState("audit of none", () -> x.audit(3, 1));
    }
}
