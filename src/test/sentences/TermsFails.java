/** A ticket FAILS. */
final class TermsFails {
    private TermsFails() {
    }

    static void run() {
        Document terms = Document.part("Terms");
        terms.says("A ticket FAILS when it is durable", TermsFails::notDurable);
        terms.says("and the live page of its leaf is not right", TermsFails::pageNotRight);
        terms.says("and the live page of its leaf is not right", TermsFails::otherPages);
        terms.says("or its LINK there is not the SUM of the record before it", TermsFails::wrongLink);
        terms.says("or its LINK there is not the SUM of the record before it", TermsFails::voidingBefore);
        terms.says("as that stands on its live page", TermsFails::wrongRecordBefore);
        terms.says("as that stands on its live page", TermsFails::acrossLeaves);
        terms.says("on its live page (of the first record: the SUM of none).", TermsFails::firstRecord);
    }

    private static void pokeAndMend(WeighRecorder x, int page, int word, int mask) {
        x.poke(page, word, mask);
        Chips.mendSum(x, page);
    }

    private static void notDurable() {
        WeighRecorder x = Chips.tickets(4);
        x.poke(0, 10, 1);
        Expect.is("its record before was poked, but it is not durable", x.audit(4, 4), 0);
        x.sync();
        Expect.is("it is durable", x.audit(4, 4), 4);
        Chips.weigh(x, 5);
        x.poke(1, 1, 1);
        Expect.is("one of a leaf is durable", x.audit(4, 5), 4);
        Expect.is("the other one is not", x.audit(5, 5), 0);
        x.sync();
        Expect.is("written again: the page is right, the chain is not", x.audit(4, 5), 4);
        Expect.is("the other one is sound", x.audit(5, 5), 0);
    }

    private static void pageNotRight() {
        WeighRecorder x = Chips.tickets(6);
        for (int word = 0; word < 16; word++) {
            x.poke(1, word, 1 << (2 * word));
            Expect.is("word " + word + " is poked: the first one", x.audit(1, 6), 4);
            Expect.is("word " + word + " is poked: the last one", x.audit(6, 6), 6);
            x.poke(1, word, 1 << (2 * word));
        }
        Expect.is("all are poked back", x.audit(1, 6), 0);
        for (int head : new int[] {0, 64, 4, 60, -1, -61, 65, 67}) {
            Chips.set(x, 1, 0, head);
            Chips.mendSum(x, 1);
            Expect.is("word 0: " + head, x.audit(1, 6), 4);
        }
    }

    private static void otherPages() {
        WeighRecorder x = Chips.recorder();
        Chips.weighAndSync(x, 1);
        Chips.weigh(x, 2);
        Chips.weigh(x, 3);
        Chips.weighAndSync(x, 4);
        x.poke(0, 1, 1);
        Expect.is("a page that was live once", x.audit(1, 4), 0);
        x.poke(2, 1, 1);
        Expect.is("another leaf's page", x.audit(1, 3), 0);
        Expect.is("its own leaf's page", x.audit(4, 4), 4);
    }

    private static void wrongLink() {
        WeighRecorder x = Chips.tickets(6);
        for (int place = 0; place < 3; place++) {
            pokeAndMend(x, 1, 5 + 4 * place, Chips.LEAST);
            int number = 4 + place;
            Expect.is("link " + place + " is poked", x.audit(1, 6), number);
            // Its LINK is among the words that the next one's LINK is the SUM of.
            Expect.is("the next one fails too", x.audit(number + 1, 6), number < 6 ? number + 1 : 0);
            Expect.is("the one behind does not", x.audit(number + 2, 6), 0);
            pokeAndMend(x, 1, 5 + 4 * place, Chips.LEAST);
        }
        Expect.is("all are mended", x.audit(1, 6), 0);
    }

    private static void voidingBefore() {
        WeighRecorder x = Chips.tickets(1);
        x.annul(1, 2);
        Chips.weigh(x, 2);
        for (int word = 6; word <= 9; word++) {
            pokeAndMend(x, 0, word, 1);
            Expect.is("word " + word + " of the voiding was poked", x.audit(1, 2), 2);
            pokeAndMend(x, 0, word, 1);
        }
        x.annul(2, 0);
        x.sync();
        pokeAndMend(x, 1, 5, 1);
        Expect.is("a voiding's own link is no ticket's", x.audit(1, 2), 0);
    }

    private static void wrongRecordBefore() {
        WeighRecorder x = Chips.tickets(3);
        for (int word = 2; word <= 4; word++) {
            pokeAndMend(x, 0, word, 4);
            Expect.is("word " + word + ": the next one tells", x.audit(1, 3), 2);
            Expect.is("and that alone", x.audit(3, 3), 0);
            pokeAndMend(x, 0, word, 4);
        }
        for (int word = 10; word <= 12; word++) {
            pokeAndMend(x, 0, word, 4);
            Expect.is("none is behind the last one", x.audit(1, 3), 0);
        }
        Expect.is("what the log has is not looked at", x.ticket(3, 0), 3);
    }

    private static void acrossLeaves() {
        WeighRecorder x = Chips.recorder();
        Chips.weighAndSync(x, 1);
        for (int i = 2; i <= 6; i++) {
            Chips.weigh(x, i);
        }
        x.poke(1, 10, 1);
        Expect.is("the page before is not right", x.audit(1, 6), 1);
        Expect.is("the first one of the next leaf", x.audit(4, 6), 4);
        Expect.is("the second one", x.audit(5, 6), 0);
        Chips.mendSum(x, 1);
        Expect.is("the page before is right", x.audit(1, 6), 4);
        pokeAndMend(x, 1, 10, 1);
        x.poke(1, 2, 1);
        Expect.is("another record of the leaf before", x.audit(4, 6), 0);
        x.poke(1, 2, 1);
        x.poke(0, 10, 1);
        Expect.is("a page of the leaf before that is not live", x.audit(1, 6), 0);
    }

    private static void firstRecord() {
        WeighRecorder x = Chips.tickets(3);
        pokeAndMend(x, 0, 5, 1);
        Expect.is("another link", x.audit(1, 1), 1);
        Chips.set(x, 0, 5, 0);
        Chips.mendSum(x, 0);
        Expect.is("no link", x.audit(1, 1), 1);
        Chips.set(x, 0, 5, 7989);
        Chips.mendSum(x, 0);
        Expect.is("the sum of none", x.audit(1, 3), 0);
    }
}
