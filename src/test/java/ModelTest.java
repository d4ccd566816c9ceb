import java.util.ArrayDeque;
import java.util.Deque;
import java.util.Random;
import java.util.TreeMap;

/** Long runs of calls, the same ones each time, whose answers are compared with those of the model. */
public final class ModelTest {
    private static final int RUNS = 1000;
    private static final int CALLS = 512;
    private static final String[] NAMES = {"axle", "close", "annul", "sync", "ticket", "dayTotal", "rangeTotal",
        "find", "audit", "exportByte", "setProduct", "cutAfter", "crash", "mount", "wearOf", "failBlock", "poke",
        "word", "state"};
    /** How often a call is made: a row for each kind of run. */
    private static final int[][] WEIGHTS = {
        {30, 26, 8, 20, 3, 2, 2, 2, 4, 3, 1, 0, 0, 0, 1, 0, 0, 6, 6},
        {30, 26, 8, 20, 3, 1, 2, 1, 4, 2, 1, 3, 1, 3, 1, 1, 0, 6, 6},
        {30, 26, 8, 25, 3, 1, 2, 1, 6, 2, 1, 1, 1, 4, 1, 1, 6, 6, 6},
        {12, 10, 4, 10, 8, 8, 8, 8, 8, 8, 8, 8, 3, 8, 8, 1, 8, 8, 8},
        {30, 30, 5, 40, 1, 0, 1, 0, 6, 0, 0, 2, 0, 2, 1, 0, 3, 3, 6},
    };
    private static final int[] ODD = {Integer.MIN_VALUE, Integer.MAX_VALUE, -1, -2, 0, 1, 1200, 1201, 216000, 216001,
        67108863, 67108864, 300, 301, 32, 31, 16, 15, 8, 7, 40, 39, 9, 48, 49};

    private final Random random;
    private final WeighRecorder recorder = new WeighRecorder();
    private final Model model = new Model();
    private final int[] weights;
    private final Deque<int[]> pending = new ArrayDeque<>();
    private final TreeMap<String, Integer> seen;
    private int day = 0;

    private ModelTest(int seed, TreeMap<String, Integer> seen) {
        this.random = new Random(seed);
        this.weights = WEIGHTS[seed % WEIGHTS.length];
        this.seen = seen;
    }

    public static void main(String[] args) {
        TreeMap<String, Integer> seen = new TreeMap<>();
        int runs = args.length == 0 ? RUNS : Integer.parseInt(args[0]);
        for (int seed = 0; seed < runs && Expect.wrongSoFar() == 0; seed++) {
            new ModelTest(seed, seen).run("run " + seed);
        }
        // The runs are of use only if they get where it matters.
        for (String answer : new String[] {"close -1", "close -2", "annul -1", "annul -2", "sync -1", "sync -2",
            "state 48", "close 0", "annul 1", "wearOf 2", "axle IllegalStateException"}) {
            Expect.is("seen: " + answer, seen.containsKey(answer) ? 1 : 0, 1);
        }
        Expect.end();
    }

    private void run(String name) {
        prepare();
        for (int i = 0; i < CALLS && Expect.wrongSoFar() == 0; i++) {
            int[] call = pending.isEmpty() ? choose() : pending.poll();
            compare(name + ", call " + i, call);
        }
    }

    private void prepare() {
        pending.add(call("setProduct", 3, 1, 0, 0));
        pending.add(call("setProduct", 39, 1, 0, 0));
        int failing = random.nextInt(8);
        for (int i = 0; i < failing; i++) {
            pending.add(call("failBlock", random.nextInt(8), 0, 0, 0));
        }
        int spoiled = random.nextInt(3) == 0 ? random.nextInt(32) : 0;
        for (int i = 0; i < spoiled; i++) {
            pending.add(call("poke", random.nextInt(32), 0, -1, 0));
        }
    }

    private static int[] call(String name, int a, int b, int c, int d) {
        for (int i = 0; i < NAMES.length; i++) {
            if (NAMES[i].equals(name)) {
                return new int[] {i, a, b, c, d};
            }
        }
        throw new AssertionError(name);
    }

    private int[] choose() {
        if (recorder.state(8) == 0 && random.nextInt(3) == 0) {
            return call("mount", 0, 0, 0, 0);
        }
        int all = 0;
        for (int weight : weights) {
            all += weight;
        }
        int pick = random.nextInt(all);
        int at = 0;
        while (pick >= weights[at]) {
            pick -= weights[at];
            at++;
        }
        int[] call = arguments(NAMES[at]);
        if (random.nextInt(25) == 0) {
            call[1 + random.nextInt(4)] = ODD[random.nextInt(ODD.length)];
        }
        return call;
    }

    private int[] arguments(String name) {
        int number = random.nextInt(52) - 1;
        int other = random.nextInt(52) - 1;
        switch (name) {
            case "axle": return call(name, 1 + random.nextInt(1200), 0, 0, 0);
            case "close":
                day += random.nextInt(800);
                return call(name, random.nextInt(9) - 4, random.nextInt(random.nextBoolean() ? 100 : 50000),
                        random.nextBoolean() ? 3 : random.nextInt(8) == 0 ? 5 : 39, day);
            case "annul": return call(name, 1 + random.nextInt(recorder.state(2) + 1), random.nextInt(4), 0, 0);
            case "ticket": return call(name, 1 + random.nextInt(recorder.state(2) + 1), random.nextInt(8), 0, 0);
            case "dayTotal": return call(name, random.nextInt(10), random.nextBoolean() ? 3 : 39, 0, 0);
            case "find": return call(name, random.nextInt(9) - 4, number, 0, 0);
            case "exportByte": return call(name, number, other, random.nextInt(random.nextBoolean() ? 20 : 400), 0);
            case "setProduct": return call(name, random.nextInt(40), random.nextInt(3), 0, 0);
            case "cutAfter": return call(name, random.nextInt(random.nextBoolean() ? 80 : 20), 0, 0, 0);
            case "wearOf": return call(name, random.nextInt(8), 0, 0, 0);
            case "failBlock": return call(name, random.nextInt(8), 0, 0, 0);
            case "poke": return poke();
            case "word": return call(name, random.nextInt(32), random.nextInt(16), 0, 0);
            case "state": return call(name, random.nextInt(9), 0, 0, 0);
            default: return call(name, number, other, 0, 0);
        }
    }

    /** A poke of one bit; or one that a poke of the sum follows; or a page made free, or spoiled. */
    private int[] poke() {
        int page = random.nextInt(32);
        int kind = random.nextInt(8);
        if (kind < 2) {
            return call("poke", page, random.nextInt(16), 1 << random.nextInt(32), 0);
        }
        if (kind == 2) {
            return call("poke", page, 0, -1, 0);
        }
        if (kind == 3) {
            for (int word = 0; word < 16; word++) {
                pending.add(call("poke", page, word, ~recorder.word(page, word), 0));
            }
            return pending.poll();
        }
        int word = random.nextInt(14);
        int mask = word < 2 ? 1 + random.nextInt(15) : 1 << random.nextInt(32);
        int[] words = java.util.Arrays.copyOf(Chips.page(recorder, page), 14);
        words[word] ^= mask;
        pending.add(call("poke", page, 14, recorder.word(page, 14) ^ Chips.sum(words), 0));
        return call("poke", page, word, mask, 0);
    }

    private void compare(String where, int[] call) {
        String name = NAMES[call[0]];
        String got = answer(() -> invoke(name, call[1], call[2], call[3], call[4]));
        String due = answer(() -> model.call(name, call[1], call[2], call[3], call[4]));
        Expect.same(where + ": " + name + java.util.Arrays.toString(call), got, due);
        for (int what = 0; what <= 8; what++) {
            Expect.is(where + ": state(" + what + ") behind " + name, recorder.state(what),
                    model.call("state", what, 0, 0, 0));
        }
        seen.merge(name + " " + got, 1, Integer::sum);
    }

    private interface Question {
        long ask();
    }

    private static String answer(Question question) {
        try {
            return Long.toString(question.ask());
        } catch (RuntimeException e) {
            return e.getClass().getSimpleName();
        }
    }

    private long invoke(String name, int a, int b, int c, int d) {
        switch (name) {
            case "axle": return recorder.axle(a);
            case "close": return recorder.close(a, b, c, d);
            case "annul": return recorder.annul(a, b);
            case "sync": return recorder.sync();
            case "ticket": return recorder.ticket(a, b);
            case "dayTotal": return recorder.dayTotal(a, b);
            case "rangeTotal": return recorder.rangeTotal(a, b);
            case "find": return recorder.find(a, b);
            case "audit": return recorder.audit(a, b);
            case "exportByte": return recorder.exportByte(a, b, c);
            case "setProduct": recorder.setProduct(a, b != 0); return 0;
            case "cutAfter": recorder.cutAfter(a); return 0;
            case "crash": recorder.crash(); return 0;
            case "mount": return recorder.mount();
            case "wearOf": return recorder.wearOf(a);
            case "failBlock": recorder.failBlock(a); return 0;
            case "poke": recorder.poke(a, b, c); return 0;
            case "word": return recorder.word(a, b);
            default: return recorder.state(a);
        }
    }
}
