/** Promises 1 to 4: a new object, put, low, compact. */
public final class TextTest {
    public static void main(String[] args) {
        newObject();
        objectsAreApart();
        putGoesHighFirst();
        lowGoesLowFirst();
        compactIsShortest();
        wrongCountsOfBytes();
        putLimit();
        lowLimit();
        compactLimit();
        Check.end();
    }

    private static void newObject() {
        WireDesk x = new WireDesk();
        Check.due("new place", x.place(), -1);
        for (int i = -1; i <= 80; i++) {
            Check.due("new byteOf " + i, x.byteOf(i), -1);
        }
        for (int what = -1; what <= 6; what++) {
            Check.due("new head " + what, x.head(what), -1);
            Check.due("new look " + what, x.look(0, what), -1);
            Check.due("new input " + what, x.input(0, 0, what), -1);
            Check.due("new output " + what, x.output(0, 0, what), -1);
        }
        for (int t = -4; t <= 1; t++) {
            for (int k = -1; k <= 4; k++) {
                Check.due("new name " + t + " " + k, x.name(t, k), 0);
            }
        }
        Check.due("new isDoubtful", x.isDoubtful(), false);
        Check.due("new read", x.read(false), -2);
        Check.due("new read place", x.place(), 0);
        Check.due("new read as block", new WireDesk().read(true), -2);
    }

    private static void objectsAreApart() {
        WireDesk x = new WireDesk();
        WireDesk y = new WireDesk();
        new Wire().small(7).give(x);
        Check.due("y has no text", y.read(false), -2);
        Check.due("x has its text", x.read(false), 1);
        Check.due("y has read nothing", y.look(0, 0), -1);
        Check.due("x has read", x.look(0, 0), 7);
    }

    /** The transaction's eight bytes under test are its output's value; it has 23 bytes in all. */
    private static WireDesk begun() {
        return new Wire().low(1, 4).size(0).size(1).desk();
    }

    private static void ended(WireDesk x, int missing) {
        new Wire().fill(0xEE, missing).size(0).low(9, 4).give(x);
        Check.due("read", x.read(false), 1);
    }

    private static void putGoesHighFirst() {
        long v = 0xF1E2D3C4B5A69788L;
        for (int n = 1; n <= 8; n++) {
            WireDesk x = begun();
            Check.due("put " + n, x.put(v, n), true);
            ended(x, 8 - n);
            for (int i = 0; i < 8; i++) {
                Check.due("byte " + i + " of put " + n, x.byteOf(6 + i), i < n ? (v >>> (8 * (n - 1 - i))) & 255 : 0xEE);
            }
        }
    }

    private static void lowGoesLowFirst() {
        long v = 0xF1E2D3C4B5A69788L;
        for (int n = 1; n <= 8; n++) {
            WireDesk x = begun();
            Check.due("low " + n, x.low(v, n), true);
            ended(x, 8 - n);
            for (int i = 0; i < 8; i++) {
                Check.due("byte " + i + " of low " + n, x.byteOf(6 + i), i < n ? (v >>> (8 * i)) & 255 : 0xEE);
            }
        }
    }

    private static void compactIsShortest() {
        long[] numbers = {0, 1, 127, 128, 200, 251, 252, 253, 254, 255, 256, 32767, 32768, 65534, 65535, 65536, 65537,
            70000, 2147483647L, 2147483648L, 4294967294L, 4294967295L, 4294967296L, 4294967297L, 1L << 48,
            Long.MAX_VALUE, Long.MIN_VALUE, -2, -1, 0x0102030405060708L};
        for (long v : numbers) {
            byte[] want = new Wire().size(v).bytes();
            WireDesk x = new Wire().low(1, 4).size(0).size(1).fill(0, 8).size(20).desk();
            Check.due("compact " + v, x.compact(v), true);
            new Wire().fill(0xEE, 20 - want.length).low(9, 4).give(x);
            Check.due("read after compact " + v, x.read(false), 1);
            for (int i = 0; i < 20; i++) {
                Check.due("byte " + i + " of compact " + v, x.byteOf(15 + i), i < want.length ? want[i] & 255 : 0xEE);
            }
        }
    }

    private static void wrongCountsOfBytes() {
        for (int n : new int[] {0, -1, -8, 9, 10, 16, 64, 256 + 4, Integer.MIN_VALUE, Integer.MAX_VALUE}) {
            WireDesk x = new Wire().small(5).desk();
            Check.due("put with " + n, x.put(-1, n), false);
            Check.due("low with " + n, x.low(-1, n), false);
            Check.due("read after refused", x.read(false), 1);
            Check.due("version after refused", x.look(0, 0), 5);
        }
    }

    /** Where fault 1 is, the place is the text's length. */
    private static void lengthIs(WireDesk x, int length) {
        Check.due("read of a long text", x.read(false), -2);
        Check.due("length of the text", x.place(), length);
    }

    /** A transaction that needs 2001 bytes and more, so that reading always tells the text's length. */
    private static WireDesk longText(int length) {
        Wire wire = new Wire().low(1, 4).size(8);
        for (int i = 0; i < 8; i++) {
            wire.input(i, i, 200, i);
        }
        wire.size(8);
        byte[] begin = wire.output(1, 1, 200).output(2, 2, 200).bytes();
        return Wire.of(java.util.Arrays.copyOf(begin, length)).desk();
    }

    private static void putLimit() {
        for (int n = 1; n <= 8; n++) {
            WireDesk full = longText(2000 - n);
            Check.due("put " + n + " up to 2000", full.put(7, n), true);
            Check.due("put behind 2000", full.put(7, 1), false);
            lengthIs(full, 2000);
            Check.due("put after read", full.put(7, n), true);
            lengthIs(full, n);
            WireDesk over = longText(2001 - n);
            Check.due("put " + n + " up to 2001", over.put(7, n), false);
            lengthIs(over, 2001 - n);
        }
    }

    private static void lowLimit() {
        for (int n = 1; n <= 8; n++) {
            WireDesk full = longText(2000 - n);
            Check.due("low " + n + " up to 2000", full.low(7, n), true);
            Check.due("low behind 2000", full.low(7, 1), false);
            lengthIs(full, 2000);
            WireDesk over = longText(2001 - n);
            Check.due("low " + n + " up to 2001", over.low(7, n), false);
            lengthIs(over, 2001 - n);
        }
    }

    private static void compactLimit() {
        long[] numbers = {0, 252, 253, 65535, 65536, 4294967295L, 4294967296L, -1};
        for (long v : numbers) {
            int n = new Wire().size(v).length();
            WireDesk full = longText(2000 - n);
            Check.due("compact " + v + " up to 2000", full.compact(v), true);
            Check.due("compact behind 2000", full.compact(0), false);
            lengthIs(full, 2000);
            WireDesk over = longText(2001 - n);
            Check.due("compact " + v + " up to 2001", over.compact(v), false);
            lengthIs(over, 2001 - n);
        }
    }
}
