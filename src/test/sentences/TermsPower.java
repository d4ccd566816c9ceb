/** POWER and steps. */
final class TermsPower {
    private TermsPower() {
    }

    static void run() {
        Document terms = Document.part("Terms");
        terms.says("POWER is on at first.", TermsPower::onAtFirst);
        terms.says("A STEP is a word that is written, or an erasure.", TermsPower::wordsAndErasures);
        terms.says("A STEP is a word that is written, or an erasure.", TermsPower::nothingElseIsAStep);
        terms.says("When cutAfter(n) was told, n more steps are done", TermsPower::nMoreSteps);
        terms.says("When cutAfter(n) was told, n more steps are done", TermsPower::toldAgain);
        terms.says("at the next one power goes OFF, and that one is not done", TermsPower::atTheNextStep);
        terms.says("the call that it is in answers that.", TermsPower::theCallAnswersThat);
        terms.says("(Behind that, and behind crash() and mount(), nothing is told.)", TermsPower::behindACut);
        terms.says("(Behind that, and behind crash() and mount(), nothing is told.)", TermsPower::behindCrash);
        terms.says("(Behind that, and behind crash() and mount(), nothing is told.)", TermsPower::behindMount);
        terms.says("What is not on the chip is lost when power goes off", TermsPower::lost);
        terms.says("but PRODUCTS (0 .. 39; each is ACTIVE or not, at first not)", TermsPower::productsStay);
        terms.says("wear, and which blocks failed.", TermsPower::wearAndFailedBlocksStay);
    }

    private static void onAtFirst() {
        WeighRecorder x = new WeighRecorder();
        Expect.is("power", x.state(8), 1);
        Expect.is("axle", x.axle(1), 1);
        Expect.is("sync", x.sync(), 1);
    }

    /** Two pages moved, a block erased, a page written: 32 steps, one, and 16. */
    private static void wordsAndErasures() {
        for (int n = 48; n <= 49; n++) {
            WeighRecorder x = Chips.firstOfTwoBlocksFull();
            Chips.weigh(x, 5);
            x.cutAfter(n);
            Expect.is("sync with " + n + " steps", x.sync(), n < 49 ? -2 : 1);
        }
        for (int n = 16; n <= 17; n++) {
            WeighRecorder x = Chips.recorderWithBlocks(2);
            Chips.spoilBlock(x, 2);
            Chips.weigh(x, 1);
            x.cutAfter(n);
            Expect.is("an erasure and a page with " + n + " steps", x.sync(), n < 17 ? -2 : 1);
        }
    }

    private static void nothingElseIsAStep() {
        WeighRecorder x = Chips.tickets(4);
        x.cutAfter(0);
        x.axle(1);
        x.close(1, 0, 4, 0);
        x.close(1, 0, 3, 0);
        x.annul(9, 0);
        x.ticket(1, 0);
        x.dayTotal(1, 3);
        x.rangeTotal(1, 4);
        x.find(1, 1);
        x.audit(1, 4);
        x.exportByte(1, 4, 0);
        x.setProduct(1, true);
        x.wearOf(0);
        x.failBlock(7);
        x.poke(9, 9, 9);
        x.word(0, 0);
        Expect.is("power", x.state(8), 1);
        Expect.is("the third record of its leaf is one of sixteen", x.annul(1, 0), -2);
    }

    private static void nMoreSteps() {
        WeighRecorder x = Chips.tickets(1);
        x.cutAfter(37);
        Expect.is("16 steps", x.sync(), 1);
        Chips.weigh(x, 2);
        Expect.is("16 more", x.sync(), 1);
        Expect.is("the five that are left are not enough", Chips.weigh(x, 3), -2);
        Expect.is("the fifth one is done", x.word(2, 4), 3 * 67108864 + 1500);
        Expect.is("no other one is", x.word(2, 5), -1);
    }

    private static void toldAgain() {
        WeighRecorder x = Chips.tickets(1);
        x.cutAfter(3);
        x.cutAfter(20);
        Expect.is("more steps are told", x.sync(), 1);
        x.cutAfter(1);
        Chips.weigh(x, 2);
        Expect.is("fewer steps are told", x.sync(), -2);
        Expect.is("one is done", x.word(1, 0), 2);
        Expect.is("one is not", x.word(1, 1), -1);
    }

    private static void atTheNextStep() {
        for (int n = 0; n <= 48; n++) {
            WeighRecorder x = Chips.firstOfTwoBlocksFull();
            Chips.weigh(x, 5);
            x.cutAfter(n);
            Expect.is("sync", x.sync(), -2);
            Expect.is("power after " + n, x.state(8), 0);
            Expect.is("erased after " + n, x.wearOf(0), n > 32 ? 1 : 0);
            int written = 0;
            for (int page = 4; page < 8; page++) {
                for (int word = 0; word < 16; word++) {
                    written += x.word(page, word) != -1 ? 1 : 0;
                }
            }
            Expect.is("words written after " + n, written, n > 32 ? n - 1 : n);
        }
    }

    private static void theCallAnswersThat() {
        WeighRecorder x = Chips.tickets(2);
        x.axle(1);
        x.cutAfter(15);
        Expect.is("close", x.close(3, 0, 3, 0), -2);
        WeighRecorder y = Chips.tickets(2);
        y.cutAfter(15);
        Expect.is("annul", y.annul(1, 0), -2);
        WeighRecorder z = Chips.tickets(2);
        z.cutAfter(15);
        Expect.is("sync", z.sync(), -2);
        WeighRecorder all = Chips.tickets(2);
        all.cutAfter(16);
        Expect.is("a call whose steps are all done", all.sync(), 1);
        Expect.is("power", all.state(8), 1);
        Chips.weigh(all, 3);
        Expect.is("the next call with a step", all.state(8), 0);
    }

    private static void behindACut() {
        WeighRecorder x = Chips.tickets(1);
        x.cutAfter(5);
        x.sync();
        x.mount();
        for (int i = 1; i <= 4; i++) {
            Expect.is("sync " + i, Chips.weighAndSync(x, i), 1);
        }
    }

    private static void behindCrash() {
        WeighRecorder x = Chips.recorder();
        x.cutAfter(0);
        x.crash();
        x.mount();
        Expect.is("told before crash()", Chips.weighAndSync(x, 1), 1);
    }

    private static void behindMount() {
        WeighRecorder x = Chips.recorder();
        x.cutAfter(0);
        x.mount();
        Expect.is("told before mount(), while on", Chips.weighAndSync(x, 1), 1);
        x.crash();
        x.cutAfter(0);
        x.mount();
        Expect.is("told before mount(), while off", Chips.weighAndSync(x, 2), 1);
    }

    private static void lost() {
        for (int way = 0; way < 3; way++) {
            WeighRecorder x = Chips.tickets(4);
            x.annul(1, 0);
            x.axle(1);
            if (way == 0) {
                x.crash();
            } else if (way == 1) {
                x.cutAfter(15);
                Expect.is("sync", x.sync(), -2);
            }
            Expect.is("tickets", x.mount(), 3);
            Expect.is("records", x.state(0), 3);
            Expect.is("readings", x.state(4), 0);
            Expect.is("the voiding", x.ticket(1, 5), 0);
            Chips.weigh(x, 9);
            Expect.is("the reading is in no ticket", x.ticket(4, 1), 1000);
            Expect.is("the chain goes on from what is there", x.ticket(4, 6),
                    Chips.sum(3, 50 * 262144 + 100, 3 * 67108864 + 1500, x.ticket(3, 6)));
        }
        WeighRecorder y = Chips.wornOut();
        y.mount();
        Expect.is("worn out is lost too", Chips.weigh(y, 5), 5);
    }

    private static void productsStay() {
        WeighRecorder x = new WeighRecorder();
        for (int product = 0; product < 40; product++) {
            x.axle(1);
            Expect.is("at first product " + product, x.close(1, 0, product, 0), 0);
            x.mount();
            x.setProduct(product, product % 2 == 0);
        }
        x.crash();
        x.mount();
        for (int product = 0; product < 40; product++) {
            if (x.state(4) == 0) {
                x.axle(1);
            }
            Expect.is("product " + product, x.close(1, 0, product, 0) > 0 ? 1 : 0, product % 2 == 0 ? 1 : 0);
        }
    }

    private static void wearAndFailedBlocksStay() {
        WeighRecorder x = Chips.firstOfTwoBlocksFull();
        Chips.weighAndSync(x, 5);
        x.crash();
        Expect.is("wear while off", x.wearOf(0), 1);
        Expect.is("free pages while off", x.state(7), 5);
        x.mount();
        Expect.is("wear behind mount()", x.wearOf(0), 1);
        Expect.is("free pages behind mount()", x.state(7), 5);
    }
}
