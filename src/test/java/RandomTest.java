import java.util.Random;

/** Random runs (always the same ones) of at most 512 calls, held against the model. */
public final class RandomTest {
    private static final int RUNS = 3000;
    private static final int CALLS = 512;
    private static final int[] ODD = {-4, -3, -2, -1, 0, 1, 2, 3, 4, 5, 6, 7, 8, 9, 11, 12, 13, 100,
        Integer.MIN_VALUE, Integer.MAX_VALUE};

    private final Random random;
    private final WireDesk desk = new WireDesk();
    private final Model model = new Model();
    private final String run;
    private int calls = 0;

    private RandomTest(int seed) {
        random = new Random(seed);
        run = "run " + seed + ": ";
    }

    public static void main(String[] args) {
        for (int seed = 0; seed < RUNS; seed++) {
            new RandomTest(seed).go();
        }
        Check.end();
    }

    private void go() {
        while (calls < CALLS) {
            boolean block = random.nextInt(3) != 0;
            give(harmed(block ? someBlock() : someTransaction()));
            if (calls < CALLS) {
                read(random.nextInt(20) == 0 ? !block : block);
            }
            int questions = 10 + random.nextInt(90);
            for (int q = 0; q < questions && calls < CALLS; q++) {
                ask();
            }
        }
    }

    private int some(int limit) {
        switch (random.nextInt(12)) {
            case 0:
                return limit;
            case 1:
                return random.nextInt(limit + 1);
            default:
                return random.nextInt(Math.min(limit, 4));
        }
    }

    private Wire someBytes(int n) {
        byte[] bytes = new byte[n];
        random.nextBytes(bytes);
        return Wire.of(bytes);
    }

    private Wire someSize(long v) {
        switch (random.nextInt(200)) {
            case 0:
                return new Wire().wideSize(253 + random.nextInt(3), v);
            case 1:
                return new Wire().size(random.nextLong() >>> random.nextInt(64));
            default:
                return new Wire().size(v);
        }
    }

    private Wire someTransaction() {
        Wire wire = someBytes(4);
        int inputs = some(8);
        wire.add(someSize(inputs));
        for (int i = 0; i < inputs; i++) {
            int script = some(200);
            wire.add(someBytes(36)).add(someSize(script)).add(someBytes(script)).add(someBytes(4));
        }
        int outputs = some(8);
        wire.add(someSize(outputs));
        for (int i = 0; i < outputs; i++) {
            int script = some(200);
            wire.add(someBytes(8)).add(someSize(script)).add(someBytes(script));
        }
        return wire.add(someBytes(4));
    }

    private Wire someBlock() {
        int count = random.nextInt(40) == 0 ? 13 : random.nextInt(13);
        Wire wire = someBytes(80).add(someSize(count));
        boolean small = random.nextBoolean();
        for (int t = 0; t < count; t++) {
            wire.add(small ? new Wire().small(random.nextInt(2)) : someTransaction());
        }
        return wire;
    }

    private Wire harmed(Wire wire) {
        byte[] bytes = wire.bytes();
        switch (random.nextInt(12)) {
            case 0:
                return Wire.of(java.util.Arrays.copyOf(bytes, random.nextInt(bytes.length + 1)));
            case 1:
                return wire.add(someBytes(1 + random.nextInt(4)));
            case 2:
                bytes[random.nextInt(bytes.length)] = (byte) random.nextInt();
                return Wire.of(bytes);
            default:
                return wire;
        }
    }

    /** The bytes by put or low of any width, some sizes by compact, and now and then a refused call. */
    private void give(Wire wire) {
        byte[] bytes = wire.bytes();
        int at = 0;
        while (at < bytes.length && calls < CALLS) {
            int n = Math.min(bytes.length - at, random.nextInt(4) == 0 ? 1 + random.nextInt(8) : 8);
            long high = Wire.eight(java.util.Arrays.copyOfRange(bytes, at, at + 8), 0) >>> (64 - 8 * n);
            int way = random.nextInt(40);
            if (way == 0) {
                put(random.nextLong(), random.nextBoolean() ? 0 : 9 + random.nextInt(99));
            } else if (way == 1) {
                low(random.nextLong(), random.nextBoolean() ? -random.nextInt(9) : 9);
            } else if (n == 1 && (bytes[at] & 255) < 253) {
                compact(high);
                at++;
            } else if (way < 20) {
                put(high | (n == 8 ? 0 : random.nextLong() << (8 * n)), n);
                at += n;
            } else {
                low(Long.reverseBytes(high) >>> (64 - 8 * n), n);
                at += n;
            }
        }
        if (random.nextInt(60) == 0 && calls < CALLS) {
            compact(random.nextLong() >>> random.nextInt(64));
        }
    }

    private void put(long v, int n) {
        calls++;
        Check.due(run + "put(" + v + ", " + n + ")", desk.put(v, n), model.put(v, n));
    }

    private void low(long v, int n) {
        calls++;
        Check.due(run + "low(" + v + ", " + n + ")", desk.low(v, n), model.low(v, n));
    }

    private void compact(long v) {
        calls++;
        Check.due(run + "compact(" + v + ")", desk.compact(v), model.compact(v));
    }

    private void read(boolean block) {
        calls++;
        Check.due(run + "read(" + block + ")", desk.read(block), model.read(block));
    }

    private int odd() {
        return ODD[random.nextInt(ODD.length)];
    }

    private int near(int limit) {
        return random.nextInt(10) == 0 ? odd() : random.nextInt(limit);
    }

    private void ask() {
        calls++;
        int t = near(4);
        int i = near(4);
        int what = near(6);
        switch (random.nextInt(8)) {
            case 0:
                Check.due(run + "place", desk.place(), model.place());
                return;
            case 1:
                int at = random.nextInt(5) == 0 ? odd() : random.nextInt(2002);
                Check.due(run + "byteOf " + at, desk.byteOf(at), model.byteOf(at));
                return;
            case 2:
                Check.due(run + "head " + what, desk.head(what), model.head(what));
                return;
            case 3:
                Check.due(run + "look " + t + " " + what, desk.look(t, what), model.look(t, what));
                return;
            case 4:
                Check.due(run + "input " + t + " " + i + " " + what, desk.input(t, i, what), model.input(t, i, what));
                return;
            case 5:
                Check.due(run + "output " + t + " " + i + " " + what, desk.output(t, i, what), model.output(t, i, what));
                return;
            case 6:
                int which = near(16) - 3;
                int k = near(4);
                Check.due(run + "name " + which + " " + k, desk.name(which, k), model.name(which, k));
                return;
            default:
                Check.due(run + "isDoubtful", desk.isDoubtful(), model.isDoubtful());
        }
    }
}
