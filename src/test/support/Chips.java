/** What tests do again and again with a recorder and its chip. */
final class Chips {
    static final int MARK = 1515870810;
    static final int VOIDING = -67108864;
    static final int LEAST = Integer.MIN_VALUE;
    static final int GREATEST = Integer.MAX_VALUE;

    private Chips() {
    }

    static WeighRecorder recorder() {
        WeighRecorder x = new WeighRecorder();
        x.setProduct(3, true);
        return x;
    }

    /** A recorder in which only the blocks named are usable. */
    static WeighRecorder recorderWithBlocks(int... usable) {
        WeighRecorder x = recorder();
        for (int block = 0; block < 8; block++) {
            boolean kept = false;
            for (int u : usable) {
                kept = kept || u == block;
            }
            if (!kept) {
                x.failBlock(block);
            }
        }
        return x;
    }

    /** Closes a ticket with a gross weight of 1000 kg, tare 100 and product 3. */
    static int weigh(WeighRecorder x, int plate) {
        x.axle(50);
        return x.close(plate, 100, 3, 1500);
    }

    static int weighAndSync(WeighRecorder x, int plate) {
        weigh(x, plate);
        return x.sync();
    }

    static int sum(int... words) {
        int sum = 7989;
        for (int word : words) {
            sum = Integer.rotateLeft(sum ^ word, 5) + 40503;
        }
        return sum;
    }

    static int[] page(WeighRecorder x, int page) {
        int[] words = new int[16];
        for (int i = 0; i < 16; i++) {
            words[i] = x.word(page, i);
        }
        return words;
    }

    static void set(WeighRecorder x, int page, int word, int value) {
        x.poke(page, word, x.word(page, word) ^ value);
    }

    static void mendSum(WeighRecorder x, int page) {
        set(x, page, 14, sum(java.util.Arrays.copyOf(page(x, page), 14)));
    }

    /** Makes a right page with pokes; the records' words stand behind each other. */
    static void forge(WeighRecorder x, int page, int head, int serial, int... records) {
        for (int i = 0; i < 12; i++) {
            set(x, page, 2 + i, i < records.length ? records[i] : 0);
        }
        set(x, page, 0, head);
        set(x, page, 1, serial);
        set(x, page, 15, MARK);
        mendSum(x, page);
    }

    /** Makes a free page neither free nor right, or takes that back. */
    static void spoil(WeighRecorder x, int page) {
        x.poke(page, 0, -1);
    }

    static void spoilBlock(WeighRecorder x, int block) {
        for (int page = 4 * block; page < 4 * block + 4; page++) {
            spoil(x, page);
        }
    }

    /** The words of count tickets in a chain, of which the first one has the LINK. */
    static int[] chain(int link, int count, int plate) {
        int[] words = new int[4 * count];
        int next = link;
        for (int i = 0; i < count; i++) {
            int[] record = {plate + i, (50 << 18) + 100, (3 << 26) + 1500, next};
            System.arraycopy(record, 0, words, 4 * i, 4);
            next = sum(record);
        }
        return words;
    }

    static int linkBehind(int[] words) {
        return sum(java.util.Arrays.copyOfRange(words, words.length - 4, words.length));
    }

    /** Count tickets of the plates 1, 2, .. */
    static WeighRecorder tickets(int count) {
        WeighRecorder x = recorder();
        for (int number = 1; number <= count; number++) {
            weigh(x, number);
        }
        return x;
    }

    /** Three durable tickets, and power on or off. */
    static WeighRecorder threeTickets(boolean on) {
        WeighRecorder x = tickets(3);
        if (!on) {
            x.crash();
        }
        return x;
    }

    /** A block whose pages are all live: leaves 0 to 3, full, with the tickets 1 to 12. */
    static WeighRecorder fullOfLiveLeaves(WeighRecorder x, int block) {
        int link = 7989;
        for (int leaf = 0; leaf < 4; leaf++) {
            int[] records = chain(link, 3, 3 * leaf + 1);
            forge(x, 4 * block + leaf, 4 * leaf + 3, leaf + 1, records);
            link = linkBehind(records);
        }
        x.mount();
        return x;
    }

    /** Block 0 is full: leaf 0 thrice, of which page 2 is live, and leaf 1, whose page 3 is live. */
    static WeighRecorder firstOfTwoBlocksFull() {
        WeighRecorder x = recorderWithBlocks(0, 1);
        for (int i = 1; i <= 4; i++) {
            weighAndSync(x, i);
        }
        return x;
    }

    /** A recorder that answered -1 once: five records, four of them durable, no readings. */
    static WeighRecorder wornOut() {
        WeighRecorder x = recorderWithBlocks(0);
        for (int i = 1; i <= 4; i++) {
            weighAndSync(x, i);
        }
        weigh(x, 5);
        Expect.is("sync that finds no page", x.sync(), -1);
        return x;
    }

    /** Makes a page free with pokes. */
    static void wipe(WeighRecorder x, int page) {
        for (int word = 0; word < 16; word++) {
            set(x, page, word, -1);
        }
    }

    /** All answers of state(), from 0 on. */
    static void states(String what, WeighRecorder x, int... due) {
        for (int i = 0; i < due.length; i++) {
            Expect.is(what + ": state(" + i + ")", x.state(i), due[i]);
        }
    }

    /** What can be seen of a recorder in a few calls. */
    private static String picture(WeighRecorder x) {
        StringBuilder text = new StringBuilder();
        for (int what = 0; what <= 8; what++) {
            text.append(x.state(what)).append(' ');
        }
        for (int block = 0; block < 8; block++) {
            text.append(x.wearOf(block)).append(' ');
        }
        if (x.state(8) == 1) {
            text.append(x.rangeTotal(1, 48)).append(' ').append(x.audit(1, 48));
        }
        return text.toString();
    }

    static void answersAndDoesNothing(String what, WeighRecorder x, long due, java.util.function.LongSupplier call) {
        String before = picture(x);
        Expect.is(what, call.getAsLong(), due);
        Expect.same(what + ", and nothing is done: it", picture(x), before);
    }

    /** A call that is refused by an exception does nothing. */
    private static void refused(Class<? extends RuntimeException> kind, String what, WeighRecorder x,
            Expect.Call call) {
        String before = picture(x);
        Expect.fails(kind, what, call);
        Expect.same(what + ", refused, does nothing: it", picture(x), before);
    }

    static void badArgument(String what, WeighRecorder x, Expect.Call call) {
        refused(IllegalArgumentException.class, what, x, call);
    }

    static void badState(String what, WeighRecorder x, Expect.Call call) {
        refused(IllegalStateException.class, what, x, call);
    }

    static void badIndex(String what, WeighRecorder x, Expect.Call call) {
        refused(IndexOutOfBoundsException.class, what, x, call);
    }

    static void samePage(String what, WeighRecorder x, int page, int... want) {
        Expect.same(what + ": page " + page, java.util.Arrays.toString(page(x, page)),
                java.util.Arrays.toString(want));
    }
}
