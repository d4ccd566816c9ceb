import java.util.Random;

/** What was synced is found again, wherever power is cut, and the chain holds. */
public final class SyncedTest {
    public static void main(String[] args) {
        for (int usable = 2; usable <= 8; usable++) {
            for (int seed = 0; seed < 400; seed++) {
                run(usable, new Random(1000L * usable + seed));
            }
        }
        Expect.end();
    }

    private static void run(int usable, Random random) {
        WeighRecorder x = Chips.recorder();
        for (int block = usable; block < 8; block++) {
            x.failBlock(block);
        }
        int[] plates = new int[49];
        for (int round = 0; round < 110; round++) {
            if (random.nextInt(4) == 0) {
                x.cutAfter(random.nextInt(120));
            }
            int durable = x.state(1);
            int records = x.state(0);
            int plate = random.nextInt();
            int number = random.nextInt(5) == 0 || x.state(4) == 9 ? 0 : Chips.weigh(x, plate);
            if (number > 0) {
                plates[number] = plate;
            }
            if (x.state(8) == 1 && random.nextInt(2) == 0 && x.sync() == 1) {
                Expect.is("all are durable", x.state(1), x.state(0));
                durable = x.state(1);
                records = durable;
            }
            boolean wasOff = x.state(8) == 0;
            if (wasOff || random.nextInt(10) == 0) {
                durable = wasOff ? durable : x.state(1);
                records = wasOff ? records + 1 : x.state(0);
                int found = x.mount();
                Expect.is("found again, of " + durable, found >= durable && found <= records ? 1 : 0, 1);
            }
            Expect.is("audit", x.audit(1, 48), 0);
            for (int i = 1; i <= x.state(2); i++) {
                Expect.is("plate of " + i, x.ticket(i, 0), plates[i]);
            }
        }
    }
}
