/** What tests do again and again with a recorder and its chip. */
final class Chips {
    static final int MARK = 1515870810;
    static final int VOIDING = -67108864;

    private Chips() {
    }

    static WeighRecorder recorder() {
        WeighRecorder x = new WeighRecorder();
        x.setProduct(3, true);
        return x;
    }

    /** A recorder in which only the blocks named are usable. */
    static WeighRecorder recorderWithBlocks(int... usable) {
        WeighRecorder x = recorder();
        for (int block = 0; block < 8; block++) {
            boolean kept = false;
            for (int u : usable) {
                kept = kept || u == block;
            }
            if (!kept) {
                x.failBlock(block);
            }
        }
        return x;
    }

    /** Closes a ticket with a gross weight of 1000 kg, tare 100 and product 3. */
    static int weigh(WeighRecorder x, int plate) {
        x.axle(50);
        return x.close(plate, 100, 3, 1500);
    }

    static int weighAndSync(WeighRecorder x, int plate) {
        weigh(x, plate);
        return x.sync();
    }

    static int sum(int... words) {
        int sum = 7989;
        for (int word : words) {
            sum = Integer.rotateLeft(sum ^ word, 5) + 40503;
        }
        return sum;
    }

    static int[] page(WeighRecorder x, int page) {
        int[] words = new int[16];
        for (int i = 0; i < 16; i++) {
            words[i] = x.word(page, i);
        }
        return words;
    }

    static void set(WeighRecorder x, int page, int word, int value) {
        x.poke(page, word, x.word(page, word) ^ value);
    }

    static void mendSum(WeighRecorder x, int page) {
        set(x, page, 14, sum(java.util.Arrays.copyOf(page(x, page), 14)));
    }

    /** Makes a right page with pokes; the records' words stand behind each other. */
    static void forge(WeighRecorder x, int page, int head, int serial, int... records) {
        for (int i = 0; i < 12; i++) {
            set(x, page, 2 + i, i < records.length ? records[i] : 0);
        }
        set(x, page, 0, head);
        set(x, page, 1, serial);
        set(x, page, 15, MARK);
        mendSum(x, page);
    }

    /** Makes a free page neither free nor right, or takes that back. */
    static void spoil(WeighRecorder x, int page) {
        x.poke(page, 0, -1);
    }

    static void spoilBlock(WeighRecorder x, int block) {
        for (int page = 4 * block; page < 4 * block + 4; page++) {
            spoil(x, page);
        }
    }

    /** The words of count tickets in a chain, of which the first one has the LINK. */
    static int[] chain(int link, int count, int plate) {
        int[] words = new int[4 * count];
        int next = link;
        for (int i = 0; i < count; i++) {
            int[] record = {plate + i, (50 << 18) + 100, (3 << 26) + 1500, next};
            System.arraycopy(record, 0, words, 4 * i, 4);
            next = sum(record);
        }
        return words;
    }

    static int linkBehind(int[] words) {
        return sum(java.util.Arrays.copyOfRange(words, words.length - 4, words.length));
    }

    static void samePage(String what, WeighRecorder x, int page, int... want) {
        Expect.same(what + ": page " + page, java.util.Arrays.toString(page(x, page)),
                java.util.Arrays.toString(want));
    }
}
