/** WHERE a leaf is written and WORN OUT, with promises 16 and 17: wearOf, failBlock. */
public final class WhereTest {
    private static final int[] FAR = {Integer.MIN_VALUE, Integer.MAX_VALUE};

    public static void main(String[] args) {
        blocksInTheirOrder();
        arguments();
        failedBlocks();
        victimIsMovedAndErased();
        cutWhileAVictimIsMoved();
        rewrittenAsTheyStand();
        leastWear();
        oneCleanWithoutVictim();
        noneCleanVictimErased();
        noneCleanCut();
        noneCleanVictimWithLivePages();
        noneCleanLivePagesNextDoor();
        victimWithOnePage();
        firstOfVictimsAlike();
        failedBlockIsNoVictim();
        wornOut();
        wornOutAnnul();
        Expect.end();
    }

    private static void blocksInTheirOrder() {
        WeighRecorder x = Chips.recorder();
        for (int leaf = 0; leaf < 16; leaf++) {
            for (int i = 0; i < 3; i++) {
                Chips.weigh(x, i);
            }
            Expect.is("page of leaf " + leaf, x.word(leaf, 0), 4 * leaf + 3);
            Expect.is("its serial", x.word(leaf, 1), leaf + 1);
            Expect.is("cursor", x.state(6), leaf / 4);
            Expect.is("free pages", x.state(7), 31 - leaf);
            Expect.is("live pages", x.state(3), leaf + 1);
        }
    }

    private static void arguments() {
        WeighRecorder x = Chips.recorder();
        for (int block : new int[] {-1, 8, FAR[0], FAR[1]}) {
            Expect.badArgument("wearOf(" + block + ")", () -> x.wearOf(block));
            Expect.badArgument("failBlock(" + block + ")", () -> x.failBlock(block));
        }
        x.crash();
        Expect.is("wearOf while off", x.wearOf(7), 0);
        x.failBlock(7);
        Expect.is("failBlock while off", x.state(7), 28);
        x.failBlock(7);
        Expect.is("failed once more", x.state(7), 28);
    }

    private static void failedBlocks() {
        WeighRecorder x = Chips.recorder();
        x.failBlock(0);
        Expect.is("free pages", x.state(7), 28);
        Chips.weighAndSync(x, 1);
        Expect.is("cursor", x.state(6), 1);
        Expect.is("page 4", x.word(4, 0), 1);
        x.failBlock(1);
        Expect.is("the cursor stays until a leaf is written", x.state(6), 1);
        Expect.is("free pages", x.state(7), 24);
        Chips.weighAndSync(x, 2);
        Expect.is("cursor behind", x.state(6), 2);
        Expect.is("page 5 is not written", x.word(5, 0), -1);
        Expect.is("page 8", x.word(8, 0), 2);
        x.mount();
        Expect.is("failed over mount", x.state(7), 23);
    }

    /** Two usable blocks, the first of them full: leaf 0 thrice, and leaf 1. */
    private static WeighRecorder firstBlockFull() {
        WeighRecorder x = Chips.recorderWithBlocks(0, 1);
        for (int i = 1; i <= 4; i++) {
            Chips.weighAndSync(x, i);
        }
        return x;
    }

    private static void victimIsMovedAndErased() {
        WeighRecorder x = firstBlockFull();
        int[] leaf0 = Chips.page(x, 2);
        int[] leaf1 = Chips.page(x, 3);
        Chips.weigh(x, 5);
        x.cutAfter(49);
        Expect.is("sync", x.sync(), 1);
        leaf0[1] = 5;
        leaf0[14] = Chips.sum(java.util.Arrays.copyOf(leaf0, 14));
        leaf1[1] = 6;
        leaf1[14] = Chips.sum(java.util.Arrays.copyOf(leaf1, 14));
        Chips.samePage("leaf 0 moved", x, 4, leaf0);
        Chips.samePage("leaf 1 moved", x, 5, leaf1);
        Expect.is("the new leaf 1", x.word(6, 0), 6);
        Expect.is("its serial", x.word(6, 1), 7);
        Expect.is("the victim is erased", x.word(2, 0), -1);
        Expect.is("its wear", x.wearOf(0), 1);
        Expect.is("no other wear", x.wearOf(1), 0);
        Expect.is("cursor", x.state(6), 1);
        Expect.is("live pages", x.state(3), 2);
        Expect.is("free pages", x.state(7), 5);
        Expect.is("latest serial", x.state(5), 7);
        Expect.is("audit", x.audit(1, 5), 0);
        x.crash();
        Expect.is("mount", x.mount(), 5);
        Expect.is("wear is kept", x.wearOf(0), 1);
        Chips.weigh(x, 6);
        Chips.weighAndSync(x, 7);
        Expect.is("back to the first block", x.state(6), 0);
        Expect.is("leaf 0 again", x.word(0, 0), 3);
        Expect.is("leaf 1 again", x.word(1, 0), 7);
        Expect.is("leaf 2", x.word(2, 0), 9);
        Expect.is("wear of the second block", x.wearOf(1), 1);
    }

    private static void cutWhileAVictimIsMoved() {
        for (int n = 0; n <= 48; n++) {
            WeighRecorder x = firstBlockFull();
            Chips.weigh(x, 5);
            x.cutAfter(n);
            Expect.is("sync cut after " + n, x.sync(), -2);
            Expect.is("wear cut after " + n, x.wearOf(0), n > 32 ? 1 : 0);
            Expect.is("mount cut after " + n, x.mount(), 4);
            Expect.is("audit cut after " + n, x.audit(1, 4), 0);
            Expect.is("cursor cut after " + n, x.state(6), n < 16 ? 0 : 1);
        }
    }

    /** A page that was poked is moved as it stands, under its old leaf, with a sum that is right. */
    private static void rewrittenAsTheyStand() {
        WeighRecorder x = firstBlockFull();
        x.poke(2, 10, 64);
        x.poke(3, 15, 1);
        Chips.set(x, 3, 0, 62);
        Expect.is("poked", x.audit(1, 4), 1);
        Chips.weighAndSync(x, 5);
        Expect.is("the poked word", x.word(4, 10), 3 ^ 64);
        Expect.is("the poked head", x.word(5, 0), 62);
        Expect.is("the last word", x.word(5, 15), Chips.MARK);
        Expect.is("right, but for the chain", x.audit(1, 5), 4);
        Expect.is("live pages", x.state(3), 2);
    }

    private static void leastWear() {
        WeighRecorder x = Chips.recorderWithBlocks(0, 1, 2);
        Chips.spoil(x, 8);
        for (int i = 1; i <= 6; i++) {
            Chips.weighAndSync(x, i);
        }
        Expect.is("block 0 was the victim", x.wearOf(0), 1);
        Expect.is("block 2 was not", x.wearOf(2), 0);
        Expect.is("block 1 is full", x.state(7), 7);
        Chips.spoil(x, 8);
        Chips.weighAndSync(x, 7);
        Expect.is("two are clean: the one of less wear", x.state(6), 2);
        Expect.is("nothing is moved", x.word(8, 0), 9);
        Expect.is("nothing is erased", x.wearOf(1), 0);
    }

    private static WeighRecorder fourFullLeaves(WeighRecorder x, int block) {
        int link = 7989;
        for (int leaf = 0; leaf < 4; leaf++) {
            int[] records = Chips.chain(link, 3, 3 * leaf + 1);
            Chips.forge(x, 4 * block + leaf, 4 * leaf + 3, leaf + 1, records);
            link = Chips.linkBehind(records);
        }
        x.mount();
        return x;
    }

    private static void oneCleanWithoutVictim() {
        WeighRecorder x = fourFullLeaves(Chips.recorderWithBlocks(0, 1), 0);
        Expect.is("a full block", x.state(3), 4);
        Chips.weighAndSync(x, 13);
        Expect.is("cursor", x.state(6), 1);
        Expect.is("nothing is moved", x.word(4, 0), 17);
        Expect.is("nothing is erased", x.wearOf(0), 0);
        Chips.weighAndSync(x, 14);
        Chips.weighAndSync(x, 15);
        Chips.weighAndSync(x, 16);
        Expect.is("both are full", x.state(7), 0);
        Chips.weigh(x, 17);
        Expect.is("the victim has live pages", x.sync(), -1);
        Expect.is("17 tickets", x.state(2), 17);
        Expect.is("16 are durable", x.state(1), 16);
    }

    private static void noneCleanVictimErased() {
        WeighRecorder x = fourFullLeaves(Chips.recorderWithBlocks(0, 1, 2), 0);
        Chips.spoil(x, 4);
        Chips.spoilBlock(x, 2);
        Chips.weigh(x, 13);
        x.cutAfter(17);
        Expect.is("sync", x.sync(), 1);
        Expect.is("the block with the most", x.wearOf(2), 1);
        Expect.is("the first one is not", x.wearOf(1), 0);
        Expect.is("it is the cursor", x.state(6), 2);
        Expect.is("the leaf is there", x.word(8, 0), 17);
        Expect.is("three pages are free in each", x.state(7), 6);
    }

    private static void noneCleanCut() {
        WeighRecorder x = fourFullLeaves(Chips.recorderWithBlocks(0, 1), 0);
        Chips.spoilBlock(x, 1);
        Chips.weigh(x, 13);
        x.cutAfter(0);
        Expect.is("cut ahead of the erasure", x.sync(), -2);
        Expect.is("no wear", x.wearOf(1), 0);
        Expect.is("nothing is erased", x.word(4, 0), 0);
        x.mount();
        Chips.weigh(x, 13);
        x.cutAfter(1);
        Expect.is("cut behind the erasure", x.sync(), -2);
        Expect.is("wear", x.wearOf(1), 1);
        Expect.is("erased", x.word(4, 0), -1);
        x.mount();
        Chips.weigh(x, 13);
        Expect.is("sync", x.sync(), 1);
        Expect.is("no more wear", x.wearOf(1), 1);
    }

    /** The victim is the block with the most, though another one could have been erased. */
    private static void noneCleanVictimWithLivePages() {
        WeighRecorder x = Chips.recorderWithBlocks(0, 1);
        for (int page = 0; page < 3; page++) {
            Chips.spoil(x, page);
        }
        Chips.forge(x, 3, 1, 5, Chips.chain(7989, 1, 1));
        Chips.spoil(x, 4);
        Chips.spoil(x, 5);
        Expect.is("mount", x.mount(), 1);
        Chips.weigh(x, 2);
        Expect.is("sync", x.sync(), -1);
        Expect.is("the cursor stays", x.state(6), 0);
        Expect.is("no wear", x.wearOf(0) + x.wearOf(1), 0);
        Chips.spoil(x, 6);
        Chips.spoil(x, 7);
        Expect.is("worn out until mount()", x.sync(), -1);
        x.mount();
        Chips.weigh(x, 2);
        Expect.is("the other one has the most now", x.sync(), 1);
        Expect.is("and is erased", x.wearOf(1), 1);
    }

    private static void noneCleanLivePagesNextDoor() {
        WeighRecorder x = fourFullLeaves(Chips.recorderWithBlocks(1, 2), 2);
        Chips.spoilBlock(x, 1);
        Expect.is("sync", Chips.weighAndSync(x, 13), 1);
        Expect.is("the live pages behind the victim do not count", x.wearOf(1), 1);
        WeighRecorder y = fourFullLeaves(Chips.recorderWithBlocks(1, 2), 1);
        Chips.spoilBlock(y, 2);
        Expect.is("sync", Chips.weighAndSync(y, 13), 1);
        Expect.is("nor do those ahead of it", y.wearOf(2), 1);
    }

    private static void victimWithOnePage() {
        WeighRecorder x = fourFullLeaves(Chips.recorderWithBlocks(0, 1), 0);
        x.poke(3, 1, 1);
        Expect.is("mount without leaf 3", x.mount(), 9);
        Expect.is("sync", Chips.weighAndSync(x, 10), 1);
        Expect.is("one page is enough", x.wearOf(0), 1);
        for (int leaf = 0; leaf < 3; leaf++) {
            Expect.is("three are moved", x.word(4 + leaf, 0), 4 * leaf + 3);
        }
        Expect.is("the last one is the leaf's", x.word(7, 0), 13);
        Expect.is("audit", x.audit(1, 10), 0);
        Expect.is("mount", x.mount(), 10);
    }

    private static void firstOfVictimsAlike() {
        WeighRecorder x = Chips.recorderWithBlocks(5, 6, 7);
        for (int block = 5; block <= 7; block++) {
            Chips.spoilBlock(x, block);
        }
        Chips.weighAndSync(x, 1);
        Expect.is("the first of those alike", x.wearOf(5), 1);
        Expect.is("its page", x.word(20, 0), 1);
        Expect.is("the others", x.wearOf(6) + x.wearOf(7), 0);
    }

    private static void failedBlockIsNoVictim() {
        WeighRecorder x = Chips.recorderWithBlocks(4);
        Chips.spoilBlock(x, 1);
        Chips.spoilBlock(x, 4);
        Chips.weighAndSync(x, 1);
        Expect.is("a failed block is not erased", x.wearOf(1), 0);
        Expect.is("another one is", x.wearOf(4), 1);
        x.failBlock(4);
        Chips.weigh(x, 2);
        Expect.is("no block is left", x.sync(), -1);
        Expect.is("read as ever", x.audit(1, 2), 0);
        Expect.is("mount", x.mount(), 1);
    }

    private static void wornOut() {
        WeighRecorder x = Chips.recorderWithBlocks(0);
        for (int i = 1; i <= 4; i++) {
            Chips.weighAndSync(x, i);
        }
        Expect.is("a record that needs no page", Chips.weigh(x, 5), 5);
        x.axle(9);
        Expect.is("the third one of its leaf", x.close(6, 0, 3, 0), -1);
        Expect.is("readings stay", x.state(4), 1);
        Expect.is("the record is not taken", x.state(0), 5);
        Expect.is("tickets", x.state(2), 5);
        Expect.is("durable", x.state(1), 4);
        Expect.is("sync", x.sync(), -1);
        Expect.is("annul that would be done", x.annul(1, 0), -1);
        Expect.is("not voided", x.ticket(1, 5), 0);
        Expect.is("annul of no ticket", x.annul(6, 0), 0);
        Expect.is("close that would not be done", x.close(6, 0, 4, 0), 0);
        Expect.is("with too much tare", x.close(6, 181, 3, 0), 0);
        Expect.badArgument("wrong arguments still", () -> x.close(6, -1, 3, 0));
        Expect.is("axle goes on", x.axle(9), 2);
        Expect.is("power is on", x.state(8), 1);
        x.crash();
        Expect.is("mount", x.mount(), 4);
        Expect.is("not worn out at once", Chips.weigh(x, 5), 5);
        Expect.is("but again", x.sync(), -1);
        Expect.is("a record that needs no page, worn out", Chips.weigh(x, 6), -1);
        x.mount();
        Expect.is("sync of durable records", x.sync(), 1);
    }

    private static void wornOutAnnul() {
        WeighRecorder x = Chips.recorderWithBlocks(0);
        for (int i = 1; i <= 4; i++) {
            Chips.weighAndSync(x, i);
        }
        Expect.is("annul that needs no page", x.annul(1, 1), 1);
        Expect.is("the third one of its leaf", x.annul(2, 1), -1);
        Expect.is("not voided", x.ticket(2, 5), 0);
        Expect.is("the record is not taken", x.state(0), 5);
        Expect.is("voided before", x.annul(1, 0), 0);
        Expect.is("again", x.annul(2, 1), -1);
        Expect.is("total", x.rangeTotal(1, 4), 2700);
    }
}
