import java.util.ArrayList;
import java.util.Arrays;
import java.util.Comparator;
import java.util.List;
import java.util.Map;
import java.util.TreeMap;
import java.util.stream.Collectors;
import java.util.stream.IntStream;

/**
 * The document read a second time, sentence by sentence and without care for speed or objects, so that runs of
 * calls can be compared. It works by exceptions, maps and lists where the class works by codes and rows.
 */
final class Model {
    private static final class PowerCut extends RuntimeException {
        private static final long serialVersionUID = 1;
    }

    private static final class Worn extends RuntimeException {
        private static final long serialVersionUID = 1;
    }

    private interface Deed {
        int run();
    }

    private final int[][] pages = new int[32][16];
    private final int[] wear = new int[8];
    private final boolean[] failed = new boolean[8];
    private final boolean[] active = new boolean[40];
    private boolean on = true;
    private Integer cut = null;

    private List<int[]> log = new ArrayList<>();
    private List<Integer> readings = new ArrayList<>();
    private Map<Integer, Integer> live = new TreeMap<>();
    private Map<Integer, Integer> recordsOnLive = new TreeMap<>();
    private Integer cursor = null;
    private int nextSerial = 1;
    private boolean worn = false;

    Model() {
        for (int[] page : pages) {
            Arrays.fill(page, -1);
        }
    }

    long call(String name, int a, int b, int c, int d) {
        switch (name) {
            case "axle": return axle(a);
            case "close": return close(a, b, c, d);
            case "annul": return annul(a, b);
            case "sync": return sync();
            case "ticket": return ticket(a, b);
            case "dayTotal": return total(t -> t.clock() / 1440 == a && t.product() == b);
            case "rangeTotal": return total(t -> t.number >= a && t.number <= b);
            case "find": return least(t -> t.number >= b && t.record[0] == a);
            case "audit": return least(t -> t.number >= a && t.number <= b && fails(t.at));
            case "exportByte": return exportByte(a, b, c);
            case "setProduct": return done(() -> active[argument(a, 0, 39)] = b != 0);
            case "cutAfter": return done(() -> cut = argument(a, 0, 300));
            case "crash": return done(this::off);
            case "mount": return mount();
            case "wearOf": return wear[argument(a, 0, 7)];
            case "failBlock": return done(() -> failed[argument(a, 0, 7)] = true);
            case "poke": return done(() -> pages[argument(a, 0, 31)][argument(b, 0, 15)] ^= c);
            case "word": return word(a, b);
            default: return state(a);
        }
    }

    private interface Act {
        void run();
    }

    private static int done(Act act) {
        act.run();
        return 0;
    }

    private static int argument(int value, int least, int most) {
        if (value < least || value > most) {
            throw new IllegalArgumentException();
        }
        return value;
    }

    private void needPower() {
        if (!on) {
            throw new IllegalStateException();
        }
    }

    // ---- tickets

    private record Ticket(int number, int at, int[] record, int voided) {
        int gross() {
            return 20 * (int) ((record[1] & 0xFFFFFFFFL) / 262144);
        }

        int tare() {
            return (int) ((record[1] & 0xFFFFFFFFL) % 262144);
        }

        int product() {
            return (int) ((record[2] & 0xFFFFFFFFL) / 67108864);
        }

        int clock() {
            return (int) ((record[2] & 0xFFFFFFFFL) % 67108864);
        }
    }

    private interface Choice {
        boolean holds(Ticket t);
    }

    private List<Ticket> tickets() {
        List<Ticket> tickets = new ArrayList<>();
        for (int at = 0; at < log.size(); at++) {
            int[] r = log.get(at);
            if ((r[2] & 0xFC000000) != 0xFC000000) {
                tickets.add(new Ticket(tickets.size() + 1, at, r, 0));
            } else if (r[0] >= 1 && r[0] <= tickets.size() && r[1] >= 0 && r[1] <= 3) {
                Ticket t = tickets.get(r[0] - 1);
                if (t.voided == 0) {
                    tickets.set(r[0] - 1, new Ticket(t.number, t.at, t.record, r[1] + 1));
                }
            }
        }
        return tickets;
    }

    private int axle(int steps) {
        argument(steps, 1, 1200);
        needPower();
        if (readings.size() == 9) {
            throw new IllegalStateException();
        }
        readings.add(steps);
        return readings.size();
    }

    private int close(int plate, int tare, int product, int clock) {
        argument(tare, 0, 216000);
        argument(product, 0, 39);
        argument(clock, 0, 67108863);
        needPower();
        int steps = readings.stream().mapToInt(Integer::intValue).sum();
        if (readings.isEmpty() || !active[product] || tare > 20 * steps || log.size() == 48) {
            return 0;
        }
        return attempt(() -> {
            comes(plate, steps * 262144 + tare, product * 67108864 + clock);
            readings.clear();
            return tickets().size();
        });
    }

    private int annul(int number, int reason) {
        argument(reason, 0, 3);
        needPower();
        List<Ticket> tickets = tickets();
        if (number < 1 || number > tickets.size() || tickets.get(number - 1).voided != 0 || log.size() == 48) {
            return 0;
        }
        return attempt(() -> {
            comes(number, reason, -67108864);
            return 1;
        });
    }

    private int sync() {
        needPower();
        if (durable() == log.size()) {
            return 1;
        }
        return attempt(() -> {
            writeLeaf((log.size() - 1) / 3);
            return 1;
        });
    }

    private int attempt(Deed deed) {
        List<int[]> before = new ArrayList<>(log);
        try {
            if (worn) {
                throw new Worn();
            }
            return deed.run();
        } catch (Worn e) {
            worn = true;
            log = before;
            return -1;
        } catch (PowerCut e) {
            off();
            return -2;
        }
    }

    private void comes(int first, int second, int third) {
        int link = log.isEmpty() ? Chips.sum() : Chips.sum(log.get(log.size() - 1));
        log.add(new int[] {first, second, third, link});
        if (log.size() % 3 == 0) {
            writeLeaf(log.size() / 3 - 1);
        }
    }

    private int ticket(int number, int what) {
        needPower();
        List<Ticket> tickets = tickets();
        if (number < 1 || number > tickets.size() || what < 0 || what > 6) {
            throw new IndexOutOfBoundsException();
        }
        Ticket t = tickets.get(number - 1);
        int[] answers = {t.record[0], t.gross(), t.tare(), t.product(), t.clock(), t.voided, t.record[3]};
        return answers[what];
    }

    private long total(Choice choice) {
        needPower();
        return tickets().stream().filter(t -> t.voided == 0 && choice.holds(t))
                .mapToLong(t -> t.gross() - t.tare()).sum();
    }

    private int least(Choice choice) {
        needPower();
        return tickets().stream().filter(choice::holds).mapToInt(t -> t.number).min().orElse(0);
    }

    private int exportByte(int from, int to, int i) {
        needPower();
        String text = tickets().stream().filter(t -> t.number >= from && t.number <= to)
                .map(t -> t.number + " " + t.record[0] + " " + (t.gross() - t.tare()) + " " + t.product()
                        + (t.voided == 0 ? "" : " V") + "\n")
                .collect(Collectors.joining());
        return i >= 0 && i < text.length() ? text.charAt(i) : -1;
    }

    // ---- the chip

    private void step() {
        if (cut != null) {
            if (cut == 0) {
                throw new PowerCut();
            }
            cut--;
        }
    }

    private void write(int page, int[] words) {
        for (int i = 0; i < 16; i++) {
            step();
            pages[page][i] = words[i];
        }
    }

    private void erase(int block) {
        step();
        wear[block]++;
        pagesOf(block).forEach(p -> Arrays.fill(pages[p], -1));
    }

    private static IntStream pagesOf(int block) {
        return IntStream.range(4 * block, 4 * block + 4);
    }

    private boolean free(int page) {
        return Arrays.stream(pages[page]).allMatch(w -> w == -1);
    }

    private boolean right(int page) {
        int[] w = pages[page];
        boolean head = IntStream.range(0, 64).anyMatch(h -> h == w[0] && h % 4 != 0);
        return head && w[14] == Chips.sum(Arrays.copyOf(w, 14)) && w[15] == 1515870810;
    }

    private static int[] sealed(int head, int serial, int[] middle) {
        int[] words = new int[16];
        words[0] = head;
        words[1] = serial;
        System.arraycopy(middle, 0, words, 2, middle.length);
        words[14] = Chips.sum(Arrays.copyOf(words, 14));
        words[15] = 1515870810;
        return words;
    }

    private int durable() {
        return recordsOnLive.values().stream().mapToInt(Integer::intValue).sum();
    }

    private void writeLeaf(int leaf) {
        int page = where();
        List<int[]> records = log.subList(3 * leaf, Math.min(3 * leaf + 3, log.size()));
        int[] middle = records.stream().flatMapToInt(Arrays::stream).toArray();
        write(page, sealed(4 * leaf + records.size(), nextSerial++, middle));
        live.put(leaf, page);
        recordsOnLive.put(leaf, records.size());
    }

    private int where() {
        if (cursor != null && !failed[cursor] && pagesOf(cursor).anyMatch(this::free)) {
            return pagesOf(cursor).filter(this::free).findFirst().getAsInt();
        }
        List<Integer> sound = IntStream.range(0, 8).filter(b -> !failed[b]).boxed().collect(Collectors.toList());
        List<Integer> clean = sound.stream().filter(b -> pagesOf(b).allMatch(this::free))
                .collect(Collectors.toList());
        if (clean.size() >= 2) {
            cursor = clean.stream().min(Comparator.comparingInt(b -> wear[b])).get();
            return 4 * cursor;
        }
        Integer victim = null;
        for (int block : sound) {
            if (stale(block) >= 1 && (victim == null || stale(block) > stale(victim))) {
                victim = block;
            }
        }
        if (clean.isEmpty()) {
            if (victim == null || pagesOf(victim).anyMatch(live::containsValue)) {
                throw new Worn();
            }
            erase(victim);
            cursor = victim;
        } else {
            cursor = clean.get(0);
            if (victim != null) {
                pagesOf(victim).filter(live::containsValue).forEach(this::move);
                erase(victim);
            }
        }
        return pagesOf(cursor).filter(this::free).findFirst().getAsInt();
    }

    private long stale(int block) {
        return pagesOf(block).filter(p -> !free(p) && !live.containsValue(p)).count();
    }

    private void move(int page) {
        int to = pagesOf(cursor).filter(this::free).findFirst().getAsInt();
        write(to, sealed(pages[page][0], nextSerial++, Arrays.copyOfRange(pages[page], 2, 14)));
        live.replaceAll((leaf, p) -> p == page ? to : p);
    }

    private int[] onChip(int at) {
        int start = 2 + at % 3 * 4;
        return Arrays.copyOfRange(pages[live.get(at / 3)], start, start + 4);
    }

    private boolean fails(int at) {
        if (at >= durable()) {
            return false;
        }
        int due = at == 0 ? Chips.sum() : Chips.sum(onChip(at - 1));
        return !right(live.get(at / 3)) || onChip(at)[3] != due;
    }

    private void off() {
        on = false;
        cut = null;
        log = new ArrayList<>();
        readings = new ArrayList<>();
        live = new TreeMap<>();
        recordsOnLive = new TreeMap<>();
        cursor = null;
        nextSerial = 1;
        worn = false;
    }

    private int mount() {
        off();
        on = true;
        List<Integer> newestFirst = IntStream.range(0, 32).filter(this::right).boxed()
                .sorted(Comparator.comparingInt((Integer p) -> pages[p][1]).reversed()
                        .thenComparingInt(p -> p))
                .collect(Collectors.toList());
        if (!newestFirst.isEmpty()) {
            cursor = newestFirst.get(0) / 4;
            nextSerial = pages[newestFirst.get(0)][1] + 1;
        }
        for (int k = 0; k < 16; k++) {
            int leaf = k;
            Integer page = newestFirst.stream().filter(p -> pages[p][0] >> 2 == leaf).findFirst().orElse(null);
            if (page == null) {
                break;
            }
            int count = pages[page][0] & 3;
            live.put(leaf, page);
            recordsOnLive.put(leaf, count);
            for (int i = 0; i < count; i++) {
                log.add(onChip(3 * leaf + i));
            }
            if (count < 3) {
                break;
            }
        }
        return tickets().size();
    }

    private int word(int page, int word) {
        if (page < 0 || page > 31 || word < 0 || word > 15) {
            throw new IndexOutOfBoundsException();
        }
        return pages[page][word];
    }

    private long state(int what) {
        switch (what) {
            case 0: return log.size();
            case 1: return durable();
            case 2: return tickets().size();
            case 3: return live.values().stream().distinct().count();
            case 4: return readings.size();
            case 5: return nextSerial - 1;
            case 6: return cursor == null ? -1 : cursor;
            case 7: return IntStream.range(0, 32).filter(p -> !failed[p / 4] && free(p)).count();
            case 8: return on ? 1 : 0;
            default: return -1;
        }
    }
}
