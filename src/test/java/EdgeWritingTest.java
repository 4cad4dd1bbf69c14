import java.util.Arrays;

/** Promises 1 to 4, sentence by sentence. */
public final class EdgeWritingTest {
    private static final long MANY = 0xF1E2D3C4B5A69788L;
    private static final int[] WRONG = {0, -1, -7, -8, 9, 10, 15, 16, 64, 257, 264, 1 << 30, Integer.MIN_VALUE,
        Integer.MIN_VALUE + 1, Integer.MAX_VALUE, Integer.MAX_VALUE - 1};

    public static void main(String[] args) {
        noText();
        nothingRead();
        lowestBytesHighestFirst();
        putOfAWrongCount();
        putUpTo2000();
        lowestBytesLowestFirst();
        lowOfAWrongCount();
        lowUpTo2000();
        shortestSize();
        withoutASign();
        compactUpTo2000();
        Check.end();
    }

    private static void noText() {
        Check.sentence("Promise 1", "No text");
        WireDesk x = new WireDesk();
        Check.due("read", x.read(false), -2);
        Check.due("place", x.place(), 0);
        WireDesk y = new WireDesk();
        Check.due("read as a block", y.read(true), -2);
        Check.due("place", y.place(), 0);
    }

    private static void nothingRead() {
        Check.sentence("Promise 1", "nothing read");
        WireDesk x = new WireDesk();
        Check.due("place", x.place(), -1);
        Snapshot.nothingRead("nothing", x);
    }

    /** The bytes under test are a script of 20, filled up with 238. */
    private static WireDesk begun() {
        return new Wire().low(1, 4).size(0).size(1).low(0, 8).size(20).desk();
    }

    private static void scriptIs(String what, WireDesk x, byte[] want) {
        new Wire().fill(238, 20 - want.length).low(0, 4).give(x);
        Check.due("read after " + what, x.read(false), 1);
        for (int i = 0; i < 20; i++) {
            Check.due("byte " + i + " of " + what, x.byteOf(15 + i), i < want.length ? want[i] & 255 : 238);
        }
    }

    private static void lowestBytesHighestFirst() {
        Check.sentence("Promise 2", "The lowest n bytes of v, the highest of them first, come behind the text: true");
        for (long v : new long[] {MANY, 0, -1, 1, Long.MIN_VALUE, Long.MAX_VALUE, 255, 256, -256}) {
            for (int n = 1; n <= 8; n++) {
                WireDesk x = begun();
                Check.due("put of " + v + " " + n, x.put(v, n), true);
                scriptIs("put of " + v + " " + n, x, new Wire().high(v, n).bytes());
            }
        }
    }

    private static void lowestBytesLowestFirst() {
        Check.sentence("Promise 3", "The same, the lowest of them first");
        for (long v : new long[] {MANY, 0, -1, 1, Long.MIN_VALUE, Long.MAX_VALUE, 255, 256, -256}) {
            for (int n = 1; n <= 8; n++) {
                WireDesk x = begun();
                Check.due("low of " + v + " " + n, x.low(v, n), true);
                scriptIs("low of " + v + " " + n, x, new Wire().low(v, n).bytes());
            }
        }
    }

    /** Without a text, with some text, and with so much that the count would run over together with it. */
    private static void putOfAWrongCount() {
        Check.sentence("Promise 2", "false if n is not 1 .. 8");
        for (int n : WRONG) {
            Check.due("put of " + n + " without a text", new WireDesk().put(MANY, n), false);
            Check.due("put of " + n + " behind a text", begun().put(MANY, n), false);
        }
        WireDesk full = Wire.whole(2000).desk();
        for (int n : WRONG) {
            Check.due("put of " + n + " behind a full text", full.put(MANY, n), false);
        }
        Check.due("read of the full text", full.read(false), 1);
    }

    private static void lowOfAWrongCount() {
        Check.sentence("Promise 3", "The same", "false if n is not 1 .. 8");
        for (int n : WRONG) {
            Check.due("low of " + n + " without a text", new WireDesk().low(MANY, n), false);
            Check.due("low of " + n + " behind a text", begun().low(MANY, n), false);
        }
        WireDesk full = Wire.whole(2000).desk();
        for (int n : WRONG) {
            Check.due("low of " + n + " behind a full text", full.low(MANY, n), false);
        }
        Check.due("read of the full text", full.read(false), 1);
    }

    /** A desk with all but the last n bytes of a full transaction. */
    private static WireDesk fullButFor(int n) {
        return Wire.of(Arrays.copyOf(Wire.whole(2000).bytes(), 2000 - n)).desk();
    }

    private static long lastHighFirst(int n) {
        byte[] bytes = Wire.whole(2000).bytes();
        long v = 0;
        for (int i = 2000 - n; i < 2000; i++) {
            v = (v << 8) | (bytes[i] & 255);
        }
        return v;
    }

    private static void fullTextIsRead(String what, WireDesk x) {
        byte[] text = Wire.whole(2000).bytes();
        Check.due("read after " + what, x.read(false), 1);
        for (int i = 1980; i < 2000; i++) {
            Check.due("byte " + i + " after " + what, x.byteOf(i), text[i] & 255);
        }
    }

    private static void putUpTo2000() {
        Check.sentence("Promise 2", "false if | or there would be more than 2000");
        for (int n = 1; n <= 8; n++) {
            WireDesk x = fullButFor(n);
            if (n < 8) {
                Check.due("put up to 2001", x.put(-1, n + 1), false);
            }
            Check.due("put up to 2000", x.put(lastHighFirst(n), n), true);
            Check.due("put of 1 behind 2000", x.put(-1, 1), false);
            Check.due("put of 8 behind 2000", x.put(-1, 8), false);
            fullTextIsRead("put of " + n, x);
            Check.due("put after reading", x.put(-1, 8), true);
        }
    }

    private static void lowUpTo2000() {
        Check.sentence("Promise 3", "The same", "false if there would be more than 2000");
        for (int n = 1; n <= 8; n++) {
            WireDesk x = fullButFor(n);
            if (n < 8) {
                Check.due("low up to 2001", x.low(-1, n + 1), false);
            }
            long v = Long.reverseBytes(lastHighFirst(n)) >>> (64 - 8 * n);
            Check.due("low up to 2000", x.low(v, n), true);
            Check.due("low of 1 behind 2000", x.low(-1, 1), false);
            Check.due("low of 8 behind 2000", x.low(-1, 8), false);
            fullTextIsRead("low of " + n, x);
            Check.due("low after reading", x.low(-1, 8), true);
        }
    }

    private static void compactIs(long v, int... want) {
        byte[] bytes = new byte[want.length];
        for (int i = 0; i < want.length; i++) {
            bytes[i] = (byte) want[i];
        }
        WireDesk x = begun();
        Check.due("compact of " + v, x.compact(v), true);
        scriptIs("compact of " + v, x, bytes);
    }

    private static void shortestSize() {
        Check.sentence("Promise 4", "comes behind the text as a size: true");
        compactIs(0, 0);
        compactIs(1, 1);
        compactIs(128, 128);
        compactIs(251, 251);
        compactIs(252, 252);
        compactIs(253, 253, 253, 0);
        compactIs(254, 253, 254, 0);
        compactIs(255, 253, 255, 0);
        compactIs(256, 253, 0, 1);
        compactIs(0x1234, 253, 0x34, 0x12);
        compactIs(65535, 253, 255, 255);
        compactIs(65536, 254, 0, 0, 1, 0);
        compactIs(0x12345678, 254, 0x78, 0x56, 0x34, 0x12);
        compactIs(4294967295L, 254, 255, 255, 255, 255);
        compactIs(4294967296L, 255, 0, 0, 0, 0, 1, 0, 0, 0);
        compactIs(0x0102030405060708L, 255, 8, 7, 6, 5, 4, 3, 2, 1);
        compactIs(Long.MAX_VALUE, 255, 255, 255, 255, 255, 255, 255, 255, 127);
    }

    private static void withoutASign() {
        Check.sentence("Promise 4", "v, a number without a sign");
        compactIs(-1, 255, 255, 255, 255, 255, 255, 255, 255, 255);
        compactIs(-256, 255, 0, 255, 255, 255, 255, 255, 255, 255);
        compactIs(-4294967296L, 255, 0, 0, 0, 0, 255, 255, 255, 255);
        compactIs(Long.MIN_VALUE, 255, 0, 0, 0, 0, 0, 0, 0, 128);
        compactIs(Long.MIN_VALUE + 5, 255, 5, 0, 0, 0, 0, 0, 0, 128);
        compactIs(2147483648L, 254, 0, 0, 0, 128);
        compactIs(32768, 253, 0, 128);
    }

    /** Where the text ends too soon, the place of the fault is the text's length. */
    private static void compactUpTo2000() {
        Check.sentence("Promise 4", "false if there would be more than 2000 bytes");
        for (long v : new long[] {0, 252, 253, 65535, 65536, 4294967295L, 4294967296L, Long.MAX_VALUE, Long.MIN_VALUE, -1}) {
            int n = new Wire().size(v).length();
            Wire scripts = new Wire().low(1, 4).size(8);
            for (int i = 0; i < 8; i++) {
                scripts.input(i, i, 200, i);
            }
            byte[] text = scripts.size(1).low(1, 8).size(200).fill(0, 60).bytes();
            WireDesk fits = Wire.of(Arrays.copyOf(text, 2000 - n)).desk();
            Check.due("compact of " + v + " up to 2000", fits.compact(v), true);
            Check.due("compact of 0 behind 2000", fits.compact(0), false);
            Check.due("compact of -1 behind 2000", fits.compact(-1), false);
            Check.due("read", fits.read(false), -2);
            Check.due("length", fits.place(), 2000);
            WireDesk over = Wire.of(Arrays.copyOf(text, 2001 - n)).desk();
            Check.due("compact of " + v + " up to 2001", over.compact(v), false);
            Check.due("read", over.read(false), -2);
            Check.due("length", over.place(), 2001 - n);
        }
        WireDesk narrow = fullButFor(1);
        Check.due("wide compact with room for one byte", narrow.compact(253), false);
        Check.due("narrow compact with room for one byte", narrow.compact(8), true);
        fullTextIsRead("compact", narrow);
    }
}
