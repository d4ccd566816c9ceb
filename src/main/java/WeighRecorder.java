/**
 * A recorder of weighings whose tickets are chained by sums and kept on a small chip. What each call promises
 * stands in DOC.md; the words of its terms (leaf, live, right, durable, cursor, victim) are used here as there.
 */
public final class WeighRecorder {
    private static final int BLOCKS = 8;
    private static final int PAGES_OF_BLOCK = 4;
    private static final int PAGES = BLOCKS * PAGES_OF_BLOCK;
    private static final int WORDS_OF_PAGE = 16;
    private static final int FREE_WORD = -1;

    private static final int WORDS_OF_RECORD = 4;
    private static final int RECORDS_OF_LEAF = 3;
    private static final int LEAVES = 16;
    private static final int MAX_RECORDS = LEAVES * RECORDS_OF_LEAF;

    private static final int SERIAL_WORD = 1;
    private static final int RECORDS_WORD = 2;
    private static final int SUM_WORD = 14;
    private static final int MARK_WORD = 15;
    private static final int MARK = 1515870810;

    private static final int EMPTY_SUM = 7989;
    private static final int SUM_TURN = 5;
    private static final int INT_BITS = 32;
    private static final int SUM_STEP = 40503;

    private static final int KG_OF_STEP = 20;
    private static final int TARE_BITS = 18;
    private static final int TARE_MASK = (1 << TARE_BITS) - 1;
    private static final int CLOCK_BITS = 26;
    private static final int MAX_CLOCK = (1 << CLOCK_BITS) - 1;
    private static final int VOIDING_CODE = 63;
    private static final int VOIDING_WORD = VOIDING_CODE << CLOCK_BITS;

    private static final int MAX_STEPS = 1200;
    private static final int MAX_READINGS = 9;
    private static final int MAX_TARE = 216000;
    private static final int PRODUCTS = 40;
    private static final int MAX_REASON = 3;
    private static final int MAX_CUT = 300;
    private static final int MINUTES_OF_DAY = 1440;
    private static final int DETAILS = 7;

    private static final int NONE = -1;
    private static final int DONE = 1;
    private static final int REFUSED = 0;
    private static final int WORN_OUT = -1;
    private static final int POWER_WENT_OFF = -2;

    private final Store store = new Store();
    private final Chip chip = store.chip();
    private final Log log = new Log();
    private final Line line = new Line();
    private final boolean[] active = new boolean[PRODUCTS];
    private int readings = 0;
    private int readSteps = 0;

    public WeighRecorder() {
    }

    public int axle(int steps) throws IllegalArgumentException, IllegalStateException {
        requireArgument(isWithin(steps, 1, MAX_STEPS));
        requireState(chip.isPowered() && readings < MAX_READINGS);
        readings++;
        readSteps += steps;
        return readings;
    }

    public int close(int plate, int tare, int product, int clock)
            throws IllegalArgumentException, IllegalStateException {
        requireArgument(isWithin(tare, 0, MAX_TARE));
        requireArgument(isProduct(product));
        requireArgument(isWithin(clock, 0, MAX_CLOCK));
        requireState(chip.isPowered());
        if (readings == 0 || !active[product] || tare > readSteps * KG_OF_STEP || log.isFull()) {
            return REFUSED;
        }
        int outcome = append(plate, (readSteps << TARE_BITS) | tare, (product << CLOCK_BITS) | clock);
        if (outcome != DONE) {
            return outcome;
        }
        forgetReadings();
        return log.ticketCount();
    }

    public int annul(int ticket, int reason) throws IllegalArgumentException, IllegalStateException {
        requireArgument(isWithin(reason, 0, MAX_REASON));
        requireState(chip.isPowered());
        if (!log.hasTicket(ticket) || log.isVoided(ticket) || log.isFull()) {
            return REFUSED;
        }
        return append(ticket, reason, VOIDING_WORD);
    }

    public int sync() throws IllegalStateException {
        requireState(chip.isPowered());
        if (store.durableCount() == log.recordCount()) {
            return DONE;
        }
        int page = store.pageForLeaf();
        return page >= 0 ? store.writeLastLeaf(log, page) : page;
    }

    public int ticket(int number, int what) throws IllegalStateException, IndexOutOfBoundsException {
        requireState(chip.isPowered());
        requireIndex(log.hasTicket(number) && isWithin(what, 0, DETAILS - 1));
        switch (what) {
            case 0:
                return log.plateOf(number);
            case 1:
                return log.grossOf(number);
            case 2:
                return log.tareOf(number);
            case 3:
                return log.productOf(number);
            case 4:
                return log.clockOf(number);
            case 5:
                return log.voidedOf(number);
            default:
                return log.linkOf(number);
        }
    }

    public long dayTotal(int day, int product) throws IllegalStateException {
        requireState(chip.isPowered());
        long total = 0;
        for (int number = 1; number <= log.ticketCount(); number++) {
            boolean counts = log.productOf(number) == product && log.clockOf(number) / MINUTES_OF_DAY == day;
            if (counts && !log.isVoided(number)) {
                total += log.netOf(number);
            }
        }
        return total;
    }

    public long rangeTotal(int from, int to) throws IllegalStateException {
        requireState(chip.isPowered());
        int last = Math.min(to, log.ticketCount());
        long total = 0;
        for (int number = Math.max(from, 1); number <= last; number++) {
            if (!log.isVoided(number)) {
                total += log.netOf(number);
            }
        }
        return total;
    }

    public int find(int plate, int from) throws IllegalStateException {
        requireState(chip.isPowered());
        for (int number = Math.max(from, 1); number <= log.ticketCount(); number++) {
            if (log.plateOf(number) == plate) {
                return number;
            }
        }
        return 0;
    }

    public int audit(int from, int to) throws IllegalStateException {
        requireState(chip.isPowered());
        int last = Math.min(to, log.ticketCount());
        for (int number = Math.max(from, 1); number <= last; number++) {
            if (store.failsAt(log.recordOf(number))) {
                return number;
            }
        }
        return 0;
    }

    public int exportByte(int from, int to, int i) throws IllegalStateException {
        requireState(chip.isPowered());
        if (i < 0) {
            return NONE;
        }
        int last = Math.min(to, log.ticketCount());
        int rest = i;
        for (int number = Math.max(from, 1); number <= last; number++) {
            line.fillFrom(log, number);
            if (rest < line.length()) {
                return line.byteAt(rest);
            }
            rest -= line.length();
        }
        return NONE;
    }

    public void setProduct(int code, boolean active) throws IllegalArgumentException {
        requireArgument(isProduct(code));
        this.active[code] = active;
    }

    public void cutAfter(int n) throws IllegalArgumentException {
        requireArgument(isWithin(n, 0, MAX_CUT));
        chip.tellCut(n);
    }

    public void crash() {
        chip.turnOff();
    }

    public int mount() {
        chip.turnOff();
        forgetReadings();
        store.restore(log);
        chip.turnOn();
        return log.ticketCount();
    }

    public int wearOf(int block) throws IllegalArgumentException {
        requireArgument(isWithin(block, 0, BLOCKS - 1));
        return chip.wearAt(block);
    }

    public void failBlock(int block) throws IllegalArgumentException {
        requireArgument(isWithin(block, 0, BLOCKS - 1));
        chip.markFailed(block);
    }

    public void poke(int page, int word, int mask) throws IllegalArgumentException {
        requireArgument(isPlace(page, word));
        chip.flip(page, word, mask);
    }

    public int word(int page, int word) throws IndexOutOfBoundsException {
        requireIndex(isPlace(page, word));
        return chip.read(page, word);
    }

    public int state(int what) {
        boolean on = chip.isPowered();
        switch (what) {
            case 0:
                return on ? log.recordCount() : 0;
            case 1:
                return on ? store.durableCount() : 0;
            case 2:
                return on ? log.ticketCount() : 0;
            case 3:
                return on ? store.livePageCount() : 0;
            case 4:
                return on ? readings : 0;
            case 5:
                return on ? store.latestSerial() : 0;
            case 6:
                return on ? store.cursorBlock() : NONE;
            case 7:
                return chip.usableFreePages();
            case 8:
                return on ? 1 : 0;
            default:
                return NONE;
        }
    }

    private int append(int first, int second, int third) {
        if (store.isWornOut()) {
            return WORN_OUT;
        }
        if (!log.nextFillsLeaf()) {
            log.add(first, second, third);
            return DONE;
        }
        // The page comes before the record, so that a worn out chip leaves the log as it was.
        int page = store.pageForLeaf();
        if (page < 0) {
            return page;
        }
        log.add(first, second, third);
        return store.writeLastLeaf(log, page);
    }

    private void forgetReadings() {
        readings = 0;
        readSteps = 0;
    }

    private static boolean isWithin(int value, int least, int greatest) {
        return value >= least && value <= greatest;
    }

    private static boolean isProduct(int code) {
        return isWithin(code, 0, PRODUCTS - 1);
    }

    private static boolean isPlace(int page, int word) {
        return isWithin(page, 0, PAGES - 1) && isWithin(word, 0, WORDS_OF_PAGE - 1);
    }

    private static void requireArgument(boolean good) {
        if (!good) {
            throw new IllegalArgumentException();
        }
    }

    private static void requireState(boolean good) {
        if (!good) {
            throw new IllegalStateException();
        }
    }

    private static void requireIndex(boolean good) {
        if (!good) {
            throw new IndexOutOfBoundsException();
        }
    }

    /** The SUM of count words of a row from a place on. */
    private static int sumOf(int[] row, int start, int count) {
        int sum = EMPTY_SUM;
        for (int i = start; i < start + count; i++) {
            sum ^= row[i];
            sum = (sum << SUM_TURN) | (sum >>> (INT_BITS - SUM_TURN));
            sum += SUM_STEP;
        }
        return sum;
    }

    /** The words, the wear and the power; it knows pages and blocks, but not which pages are live. */
    private static final class Chip {
        private static final int NO_CUT = -1;

        private final int[] words = new int[PAGES * WORDS_OF_PAGE];
        private final int[] wear = new int[BLOCKS];
        private final boolean[] failed = new boolean[BLOCKS];
        private boolean powered = true;
        private int stepsToCut = NO_CUT;

        Chip() {
            for (int i = 0; i < words.length; i++) {
                words[i] = FREE_WORD;
            }
        }

        boolean isPowered() {
            return powered;
        }

        void turnOff() {
            powered = false;
            stepsToCut = NO_CUT;
        }

        void turnOn() {
            powered = true;
        }

        void tellCut(int steps) {
            // What is told while power is off is forgotten at mount(), which turns it off once more.
            stepsToCut = steps;
        }

        int read(int page, int word) {
            return words[page * WORDS_OF_PAGE + word];
        }

        void flip(int page, int word, int mask) {
            words[page * WORDS_OF_PAGE + word] ^= mask;
        }

        int wearAt(int block) {
            return wear[block];
        }

        void markFailed(int block) {
            failed[block] = true;
        }

        boolean hasFailed(int block) {
            return failed[block];
        }

        /** Writes a row into a page; false when power went off before its last word. */
        boolean writePage(int page, int[] row) {
            for (int word = 0; word < WORDS_OF_PAGE; word++) {
                if (!mayStep()) {
                    return false;
                }
                words[page * WORDS_OF_PAGE + word] = row[word];
            }
            return true;
        }

        /** Erases a block; false when power went off instead. */
        boolean eraseBlock(int block) {
            if (!mayStep()) {
                return false;
            }
            int start = block * PAGES_OF_BLOCK * WORDS_OF_PAGE;
            for (int i = 0; i < PAGES_OF_BLOCK * WORDS_OF_PAGE; i++) {
                words[start + i] = FREE_WORD;
            }
            wear[block]++;
            return true;
        }

        private boolean mayStep() {
            if (stepsToCut == 0) {
                powered = false;
                stepsToCut = NO_CUT;
            } else if (stepsToCut > 0) {
                stepsToCut--;
            }
            return powered;
        }

        boolean isFree(int page) {
            int start = page * WORDS_OF_PAGE;
            for (int i = start; i < start + WORDS_OF_PAGE; i++) {
                if (words[i] != FREE_WORD) {
                    return false;
                }
            }
            return true;
        }

        /** The words behind the records are not looked at: the document's form does not name them. */
        boolean isRight(int page) {
            int head = read(page, 0);
            return head > 0 && head < LEAVES * 4 && head % 4 != 0
                    && read(page, MARK_WORD) == MARK
                    && read(page, SUM_WORD) == sumOf(words, page * WORDS_OF_PAGE, SUM_WORD);
        }

        int linkAt(int page, int place) {
            return read(page, RECORDS_WORD + place * WORDS_OF_RECORD + WORDS_OF_RECORD - 1);
        }

        int sumOfRecordAt(int page, int place) {
            return sumOf(words, page * WORDS_OF_PAGE + RECORDS_WORD + place * WORDS_OF_RECORD, WORDS_OF_RECORD);
        }

        int firstFreePage(int block) {
            for (int page = block * PAGES_OF_BLOCK; page < (block + 1) * PAGES_OF_BLOCK; page++) {
                if (isFree(page)) {
                    return page;
                }
            }
            return NONE;
        }

        int freePagesOf(int block) {
            int free = 0;
            for (int page = block * PAGES_OF_BLOCK; page < (block + 1) * PAGES_OF_BLOCK; page++) {
                if (isFree(page)) {
                    free++;
                }
            }
            return free;
        }

        int usableFreePages() {
            int free = 0;
            for (int block = 0; block < BLOCKS; block++) {
                if (!failed[block]) {
                    free += freePagesOf(block);
                }
            }
            return free;
        }

        boolean isClean(int block) {
            return !failed[block] && freePagesOf(block) == PAGES_OF_BLOCK;
        }

        int cleanBlockCount() {
            int clean = 0;
            for (int block = 0; block < BLOCKS; block++) {
                if (isClean(block)) {
                    clean++;
                }
            }
            return clean;
        }

        int leastWornCleanBlock() {
            int best = NONE;
            for (int block = 0; block < BLOCKS; block++) {
                if (isClean(block) && (best == NONE || wear[block] < wear[best])) {
                    best = block;
                }
            }
            return best;
        }
    }

    /** The records as they are known while power is on, and what they say of tickets. */
    private static final class Log {
        private final int[] words = new int[MAX_RECORDS * WORDS_OF_RECORD];
        private final int[] recordOfTicket = new int[MAX_RECORDS];
        private final int[] voidedBy = new int[MAX_RECORDS];
        private int records = 0;
        private int tickets = 0;

        void empty() {
            records = 0;
            tickets = 0;
        }

        int recordCount() {
            return records;
        }

        int ticketCount() {
            return tickets;
        }

        boolean isFull() {
            return records >= MAX_RECORDS;
        }

        boolean nextFillsLeaf() {
            return records % RECORDS_OF_LEAF == RECORDS_OF_LEAF - 1;
        }

        /** Takes a new record, whose LINK is made here. */
        void add(int first, int second, int third) {
            int before = (records - 1) * WORDS_OF_RECORD;
            int link = records == 0 ? EMPTY_SUM : sumOf(words, before, WORDS_OF_RECORD);
            addLinked(first, second, third, link);
        }

        /** Takes a record with the LINK that it has on the chip, be it right or not. */
        void addLinked(int first, int second, int third, int link) {
            if (isFull()) {
                return;
            }
            int start = records * WORDS_OF_RECORD;
            words[start] = first;
            words[start + 1] = second;
            words[start + 2] = third;
            words[start + 3] = link;
            if (third >>> CLOCK_BITS == VOIDING_CODE) {
                applyVoiding(first, second);
            } else {
                recordOfTicket[tickets] = records;
                voidedBy[tickets] = 0;
                tickets++;
            }
            records++;
        }

        private void applyVoiding(int number, int reason) {
            if (hasTicket(number) && !isVoided(number) && isWithin(reason, 0, MAX_REASON)) {
                voidedBy[number - 1] = reason + 1;
            }
        }

        void copyRecords(int from, int count, int[] row, int start) {
            for (int i = 0; i < count * WORDS_OF_RECORD; i++) {
                row[start + i] = words[from * WORDS_OF_RECORD + i];
            }
        }

        boolean hasTicket(int number) {
            return number >= 1 && number <= tickets;
        }

        int recordOf(int number) {
            return recordOfTicket[number - 1];
        }

        private int wordOf(int number, int place) {
            return words[recordOf(number) * WORDS_OF_RECORD + place];
        }

        int plateOf(int number) {
            return wordOf(number, 0);
        }

        int grossOf(int number) {
            return (wordOf(number, 1) >>> TARE_BITS) * KG_OF_STEP;
        }

        int tareOf(int number) {
            return wordOf(number, 1) & TARE_MASK;
        }

        int netOf(int number) {
            return grossOf(number) - tareOf(number);
        }

        int productOf(int number) {
            return wordOf(number, 2) >>> CLOCK_BITS;
        }

        int clockOf(int number) {
            return wordOf(number, 2) & MAX_CLOCK;
        }

        int linkOf(int number) {
            return wordOf(number, 3);
        }

        int voidedOf(int number) {
            return voidedBy[number - 1];
        }

        boolean isVoided(int number) {
            return voidedBy[number - 1] != 0;
        }
    }

    /** Finds places for leaves, writes them, and knows which pages are live. */
    private static final class Store {
        private final Chip chip = new Chip();
        private final int[] livePages = new int[LEAVES];
        private final int[] row = new int[WORDS_OF_PAGE];
        private int cursor = NONE;
        private int serial = 0;
        private int durable = 0;
        private boolean wornOut = false;

        Store() {
            for (int leaf = 0; leaf < LEAVES; leaf++) {
                livePages[leaf] = NONE;
            }
        }

        /** The chip is made here and asked for, so that no constructor hands on a part of its object. */
        Chip chip() {
            return chip;
        }

        boolean isWornOut() {
            return wornOut;
        }

        int durableCount() {
            return durable;
        }

        int latestSerial() {
            return serial;
        }

        int cursorBlock() {
            return cursor;
        }

        /** A page may be live for two leaves when it was poked free and written again: it counts once. */
        int livePageCount() {
            int count = 0;
            for (int page = 0; page < PAGES; page++) {
                if (isLive(page)) {
                    count++;
                }
            }
            return count;
        }

        private boolean isLive(int page) {
            for (int leaf = 0; leaf < LEAVES; leaf++) {
                if (livePages[leaf] == page) {
                    return true;
                }
            }
            return false;
        }

        private boolean hasLivePages(int block) {
            for (int page = block * PAGES_OF_BLOCK; page < (block + 1) * PAGES_OF_BLOCK; page++) {
                if (isLive(page)) {
                    return true;
                }
            }
            return false;
        }

        /** Finds the page of the next leaf, making room for it; WORN_OUT or POWER_WENT_OFF without. */
        int pageForLeaf() {
            if (wornOut) {
                return WORN_OUT;
            }
            int page = freePageOfCursor();
            if (page != NONE) {
                return page;
            }
            int clean = chip.cleanBlockCount();
            int outcome;
            if (clean == 0) {
                outcome = reclaim(chooseVictim());
            } else {
                cursor = chip.leastWornCleanBlock();
                outcome = clean == 1 ? evacuate(chooseVictim()) : DONE;
            }
            return outcome == DONE ? freePageOfCursor() : outcome;
        }

        private int freePageOfCursor() {
            return cursor == NONE || chip.hasFailed(cursor) ? NONE : chip.firstFreePage(cursor);
        }

        private int chooseVictim() {
            int victim = NONE;
            int most = 0;
            for (int block = 0; block < BLOCKS; block++) {
                int stale = chip.hasFailed(block) ? 0 : stalePagesOf(block);
                if (stale > most) {
                    victim = block;
                    most = stale;
                }
            }
            return victim;
        }

        private int stalePagesOf(int block) {
            int stale = 0;
            for (int page = block * PAGES_OF_BLOCK; page < (block + 1) * PAGES_OF_BLOCK; page++) {
                if (!chip.isFree(page) && !isLive(page)) {
                    stale++;
                }
            }
            return stale;
        }

        /** Without a clean block live pages have nowhere to go, so only a victim without them serves. */
        private int reclaim(int victim) {
            if (victim == NONE || hasLivePages(victim)) {
                wornOut = true;
                return WORN_OUT;
            }
            if (!chip.eraseBlock(victim)) {
                return POWER_WENT_OFF;
            }
            cursor = victim;
            return DONE;
        }

        /** A victim has a stale page, so its live ones leave a free page in the cursor, which is clean. */
        private int evacuate(int victim) {
            if (victim == NONE) {
                return DONE;
            }
            int target = cursor * PAGES_OF_BLOCK;
            for (int page = victim * PAGES_OF_BLOCK; page < (victim + 1) * PAGES_OF_BLOCK; page++) {
                if (isLive(page)) {
                    if (!rewritePage(page, target)) {
                        return POWER_WENT_OFF;
                    }
                    target++;
                }
            }
            return chip.eraseBlock(victim) ? DONE : POWER_WENT_OFF;
        }

        private boolean rewritePage(int page, int target) {
            for (int word = 0; word < SUM_WORD; word++) {
                row[word] = chip.read(page, word);
            }
            sealRow();
            if (!chip.writePage(target, row)) {
                return false;
            }
            for (int leaf = 0; leaf < LEAVES; leaf++) {
                if (livePages[leaf] == page) {
                    livePages[leaf] = target;
                }
            }
            return true;
        }

        /** Writes the last leaf of a log into a free page: DONE or POWER_WENT_OFF. */
        int writeLastLeaf(Log log, int page) {
            int leaf = (log.recordCount() - 1) / RECORDS_OF_LEAF;
            int count = log.recordCount() - leaf * RECORDS_OF_LEAF;
            row[0] = 4 * leaf + count;
            for (int word = RECORDS_WORD; word < SUM_WORD; word++) {
                row[word] = 0;
            }
            log.copyRecords(leaf * RECORDS_OF_LEAF, count, row, RECORDS_WORD);
            sealRow();
            if (!chip.writePage(page, row)) {
                return POWER_WENT_OFF;
            }
            livePages[leaf] = page;
            durable = log.recordCount();
            return DONE;
        }

        private void sealRow() {
            serial++;
            row[SERIAL_WORD] = serial;
            row[SUM_WORD] = sumOf(row, 0, SUM_WORD);
            row[MARK_WORD] = MARK;
        }

        /** Finds live pages, cursor and SERIAL on the chip, and reads the log from there. */
        void restore(Log log) {
            int newest = findNewestPages();
            cursor = newest == NONE ? NONE : newest / PAGES_OF_BLOCK;
            serial = newest == NONE ? 0 : chip.read(newest, SERIAL_WORD);
            wornOut = false;
            log.empty();
            boolean goesOn = true;
            for (int leaf = 0; leaf < LEAVES; leaf++) {
                goesOn = goesOn && livePages[leaf] != NONE;
                if (goesOn) {
                    goesOn = readLeaf(log, livePages[leaf]) == RECORDS_OF_LEAF;
                } else {
                    livePages[leaf] = NONE;
                }
            }
            durable = log.recordCount();
        }

        private int findNewestPages() {
            for (int leaf = 0; leaf < LEAVES; leaf++) {
                livePages[leaf] = NONE;
            }
            int newest = NONE;
            for (int page = 0; page < PAGES; page++) {
                if (chip.isRight(page)) {
                    int leaf = chip.read(page, 0) / 4;
                    livePages[leaf] = newerOf(livePages[leaf], page);
                    newest = newerOf(newest, page);
                }
            }
            return newest;
        }

        private int newerOf(int known, int page) {
            boolean newer = known == NONE || chip.read(page, SERIAL_WORD) > chip.read(known, SERIAL_WORD);
            return newer ? page : known;
        }

        private int readLeaf(Log log, int page) {
            int count = chip.read(page, 0) % 4;
            for (int place = 0; place < count; place++) {
                int start = RECORDS_WORD + place * WORDS_OF_RECORD;
                log.addLinked(chip.read(page, start), chip.read(page, start + 1),
                        chip.read(page, start + 2), chip.read(page, start + 3));
            }
            return count;
        }

        /** Whether a record, as the chip has it, fails; what is not durable cannot. */
        boolean failsAt(int record) {
            if (record >= durable) {
                return false;
            }
            int page = livePages[record / RECORDS_OF_LEAF];
            if (page == NONE) {
                return false;
            }
            return !chip.isRight(page)
                    || chip.linkAt(page, record % RECORDS_OF_LEAF) != sumBefore(record);
        }

        private int sumBefore(int record) {
            if (record == 0) {
                return EMPTY_SUM;
            }
            int page = livePages[(record - 1) / RECORDS_OF_LEAF];
            return page == NONE ? EMPTY_SUM : chip.sumOfRecordAt(page, (record - 1) % RECORDS_OF_LEAF);
        }
    }

    /** The line of one ticket, in a row that is used again for each. */
    private static final class Line {
        private static final int LONGEST = 32;
        private static final int MOST_DIGITS = 10;

        private final byte[] bytes = new byte[LONGEST];
        private int used = 0;

        int length() {
            return used;
        }

        int byteAt(int i) {
            return bytes[i];
        }

        void fillFrom(Log log, int number) {
            used = 0;
            addNumber(number);
            addByte(' ');
            addNumber(log.plateOf(number));
            addByte(' ');
            addNumber(log.netOf(number));
            addByte(' ');
            addNumber(log.productOf(number));
            if (log.isVoided(number)) {
                addByte(' ');
                addByte('V');
            }
            addByte('\n');
        }

        private void addNumber(int value) {
            // A long, as the least int has no positive counterpart.
            long rest = value;
            if (rest < 0) {
                addByte('-');
                rest = -rest;
            }
            int digits = digitsOf(rest);
            if (used + digits > LONGEST) {
                return;
            }
            for (int place = used + digits - 1; place >= used; place--) {
                bytes[place] = (byte) ('0' + rest % 10);
                rest /= 10;
            }
            used += digits;
        }

        private static int digitsOf(long value) {
            int digits = 1;
            for (long limit = 10; digits < MOST_DIGITS && value >= limit; limit *= 10) {
                digits++;
            }
            return digits;
        }

        private void addByte(int value) {
            if (used < LONGEST) {
                bytes[used] = (byte) value;
                used++;
            }
        }
    }
}
