import java.util.Arrays;

/** Records, their SUM, and the pages that they stand on. */
final class TermsRecord {
    private TermsRecord() {
    }

    static void run() {
        Document terms = Document.part("Terms");
        terms.says("A RECORD is four words.", TermsRecord::fourWords);
        terms.says("A TICKET (numbers 1, 2, .. in their order)", TermsRecord::numbers);
        terms.says("plate; steps of 20 kg, times 262144, and tare in kg", TermsRecord::firstWords);
        terms.says("product times 67108864, and clock (minutes); LINK.", TermsRecord::thirdWord);
        terms.says("A VOIDING of a ticket: its number; a reason (0 .. 3); -67108864; LINK.", TermsRecord::voiding);
        terms.says("LINK is the SUM of the four words of the record before it (", TermsRecord::links);
        terms.says("of the record before it (of the first record: the SUM of none).", TermsRecord::firstLink);
        terms.says("The SUM of words: 7989; for each word: that is xored with it, turned left by 5 bits, "
                + "and 40503 is added.", TermsRecord::sums);
        terms.says("THE LOG: at most 48 records, in order.", TermsRecord::log);
        terms.says("LEAF k has the records 3 k to 3 k + 2 (from 0 on).", TermsRecord::leaves);
        terms.says("A page of leaf k has: word 0: 4 k and how many records it has (1 .. 3)", TermsRecord::heads);
        terms.says("1: a SERIAL", TermsRecord::serials);
        terms.says("2 .. 13: the records, 0 behind them", TermsRecord::zerosBehindRecords);
        terms.says("14: the SUM of the words 0 to 13; 15: 1515870810.", TermsRecord::lastWords);
        terms.says("A record that COMES is taken into the log", TermsRecord::comes);
        terms.says("when it is the third one of its leaf, the leaf is written.", TermsRecord::thirdOne);
    }

    private static WeighRecorder nineGreatReadings() {
        WeighRecorder x = Chips.recorder();
        x.setProduct(39, true);
        for (int i = 0; i < 9; i++) {
            x.axle(1200);
        }
        return x;
    }

    private static void fourWords() {
        WeighRecorder x = Chips.tickets(3);
        for (int i = 0; i < 3; i++) {
            Expect.is("the plate of record " + i, x.word(0, 2 + 4 * i), i + 1);
            Expect.is("the link of record " + i, x.word(0, 5 + 4 * i), x.ticket(i + 1, 6));
        }
    }

    private static void numbers() {
        WeighRecorder x = Chips.tickets(2);
        x.annul(1, 0);
        Expect.is("behind a voiding", Chips.weigh(x, 30), 3);
        x.sync();
        x.mount();
        Expect.is("plate of the first one", x.ticket(1, 0), 1);
        Expect.is("plate of the second one", x.ticket(2, 0), 2);
        Expect.is("plate of the third one", x.ticket(3, 0), 30);
    }

    private static void firstWords() {
        WeighRecorder x = nineGreatReadings();
        x.close(Chips.LEAST, 216000, 39, 0);
        x.axle(1);
        x.close(Chips.GREATEST, 0, 3, 0);
        x.axle(1);
        x.close(-1, 20, 3, 0);
        Expect.is("the least plate", x.word(0, 2), Chips.LEAST);
        Expect.is("the most steps and the greatest tare", x.word(0, 3), 10800 * 262144 + 216000);
        Expect.is("the greatest plate", x.word(0, 6), Chips.GREATEST);
        Expect.is("one step and no tare", x.word(0, 7), 262144);
        Expect.is("plate -1", x.word(0, 10), -1);
        Expect.is("one step and its tare", x.word(0, 11), 262164);
    }

    private static void thirdWord() {
        WeighRecorder x = nineGreatReadings();
        x.setProduct(0, true);
        x.close(1, 0, 39, 67108863);
        x.axle(1);
        x.close(1, 0, 0, 0);
        x.axle(1);
        x.close(1, 0, 3, 1);
        Expect.is("the greatest product and clock", x.word(0, 4), 39 * 67108864 + 67108863);
        Expect.is("the least product and clock", x.word(0, 8), 0);
        Expect.is("product 3 and clock 1", x.word(0, 12), 201326593);
        Expect.is("the link", x.word(0, 13), x.ticket(3, 6));
    }

    private static void voiding() {
        WeighRecorder x = Chips.tickets(4);
        for (int reason = 0; reason <= 3; reason++) {
            x.annul(4 - reason, reason);
        }
        x.sync();
        int[][] places = {{1, 6}, {1, 10}, {2, 2}, {2, 6}};
        for (int reason = 0; reason <= 3; reason++) {
            int page = places[reason][0];
            int start = places[reason][1];
            Expect.is("its number", x.word(page, start), 4 - reason);
            Expect.is("its reason", x.word(page, start + 1), reason);
            Expect.is("its third word", x.word(page, start + 2), -67108864);
        }
    }

    /** The records as they stand on the pages of leaves that were written once each. */
    private static int[] record(WeighRecorder x, int at) {
        int start = 2 + at % 3 * 4;
        return Arrays.copyOfRange(Chips.page(x, at / 3), start, start + 4);
    }

    private static void links() {
        WeighRecorder x = Chips.tickets(4);
        x.annul(2, 1);
        Chips.weigh(x, 5);
        Chips.weigh(x, 6);
        x.annul(5, 3);
        x.annul(6, 0);
        for (int at = 1; at < 9; at++) {
            Expect.is("the link of record " + at, record(x, at)[3], Chips.sum(record(x, at - 1)));
        }
    }

    private static void firstLink() {
        WeighRecorder x = Chips.tickets(3);
        Expect.is("ticket(1, 6)", x.ticket(1, 6), 7989);
        Expect.is("on the page", x.word(0, 5), 7989);
    }

    /** The numbers are worked out apart from this program. */
    private static void sums() {
        WeighRecorder x = Chips.recorder();
        x.axle(500);
        x.close(7, 100, 3, 1500);
        x.sync();
        Expect.is("of 14 words", x.word(0, 14), 787947076);
        Chips.weigh(x, 8);
        Expect.is("of four words", x.ticket(2, 6), 1152101969);
        Expect.is("of none", x.ticket(1, 6), 7989);
        WeighRecorder y = nineGreatReadings();
        y.close(Chips.LEAST, 216000, 39, 67108863);
        Chips.weigh(y, 8);
        Expect.is("of four words, three of them below 0", y.ticket(2, 6), 369463443);
    }

    private static void log() {
        WeighRecorder x = Chips.tickets(47);
        Expect.is("the 48th", Chips.weigh(x, 48), 48);
        Expect.is("the 49th", Chips.weigh(x, 49), 0);
        Expect.is("a voiding would be the 49th", x.annul(1, 0), 0);
        x.mount();
        for (int number = 1; number <= 48; number++) {
            Expect.is("in order", x.ticket(number, 0), number);
        }
    }

    private static void leaves() {
        WeighRecorder x = Chips.tickets(48);
        for (int leaf = 0; leaf < 16; leaf++) {
            for (int i = 0; i < 3; i++) {
                Expect.is("the plate of record " + (3 * leaf + i), x.word(leaf, 2 + 4 * i), 3 * leaf + i + 1);
            }
        }
    }

    private static void heads() {
        WeighRecorder x = Chips.recorder();
        int page = 0;
        for (int record = 0; record < 18; record++) {
            Chips.weighAndSync(x, record);
            Expect.is("word 0 with " + (record + 1), x.word(page, 0), record / 3 * 4 + record % 3 + 1);
            page++;
        }
        WeighRecorder full = Chips.tickets(48);
        Expect.is("word 0 of the last leaf", full.word(15, 0), 63);
    }

    private static void serials() {
        WeighRecorder x = Chips.recorder();
        for (int page = 0; page < 20; page++) {
            Chips.weighAndSync(x, page);
            Expect.is("word 1 of page " + page, x.word(page, 1), page + 1);
        }
    }

    private static void zerosBehindRecords() {
        WeighRecorder x = Chips.tickets(3);
        for (int more = 1; more <= 2; more++) {
            Chips.weighAndSync(x, -1);
            for (int word = 2; word < 14; word++) {
                boolean behind = word >= 2 + 4 * more;
                Expect.is("word " + word + " with " + more, x.word(more, word) == 0 ? 1 : 0, behind ? 1 : 0);
            }
        }
    }

    private static void lastWords() {
        WeighRecorder x = Chips.recorder();
        for (int page = 0; page < 4; page++) {
            Chips.weighAndSync(x, page);
            Expect.is("word 14", x.word(page, 14), Chips.sum(Arrays.copyOf(Chips.page(x, page), 14)));
            Expect.is("word 15", x.word(page, 15), 1515870810);
        }
    }

    private static void comes() {
        WeighRecorder x = Chips.recorder();
        Chips.weigh(x, 1);
        Chips.states("a ticket", x, 1, 0, 1, 0, 0, 0, -1, 32, 1);
        x.annul(1, 0);
        Chips.states("a voiding", x, 2, 0, 1, 0, 0, 0, -1, 32, 1);
        Expect.is("the ticket can be read", x.ticket(1, 0), 1);
    }

    private static void thirdOne() {
        WeighRecorder x = Chips.tickets(2);
        Expect.is("two are not written", x.word(0, 0), -1);
        x.annul(1, 0);
        Expect.is("a voiding is the third one", x.word(0, 0), 3);
        Chips.states("all are durable", x, 3, 3, 2, 1, 0, 1, 0, 31, 1);
        Chips.weighAndSync(x, 3);
        Chips.weighAndSync(x, 4);
        Chips.weigh(x, 5);
        Expect.is("a ticket is the third one, two having been synced", x.word(3, 0), 7);
        Chips.states("all are durable", x, 6, 6, 5, 2, 0, 4, 0, 28, 1);
    }
}
