import java.util.Arrays;

/** Promises 5 to 7: read, place, byteOf. */
public final class ReadTest {
    public static void main(String[] args) {
        everyCutOfATransaction();
        everyCutOfABlock();
        textGoesOn();
        sizesTooLong();
        sizesTooMuch();
        bothFaultsOfASize();
        unendedSizes();
        limitsAreAllowed();
        nothingIsTooFew();
        countsOfTransactions();
        firstFaultIsTold();
        textIsGone();
        faultForgetsWhatWasRead();
        placeIsOfTheLastReading();
        laterTextLeavesWhatWasRead();
        bytesOfWhatWasRead();
        Check.end();
    }

    private static void reads(String what, Wire wire, boolean block, int answer, int place) {
        WireDesk x = wire.desk();
        Check.due(what + ": read", x.read(block), answer);
        Check.due(what + ": place", x.place(), place);
        Check.due(what + ": first byte", x.byteOf(0), answer < 0 ? -1 : wire.bytes()[0] & 255);
    }

    private static Wire transaction() {
        return new Wire().low(1, 4).size(2).input(5, 6, 3, 7).input(50, 60, 0, 70)
            .size(2).output(8, 9, 2).output(80, 90, 0).low(4, 4);
    }

    private static Wire cut(Wire wire, int length) {
        return Wire.of(Arrays.copyOf(wire.bytes(), length));
    }

    private static void everyCutOfATransaction() {
        Wire whole = transaction();
        reads("whole transaction", whole, false, 1, -1);
        for (int n = 0; n < whole.length(); n++) {
            reads("transaction of " + n + " bytes", cut(whole, n), false, -2, n);
        }
    }

    private static void everyCutOfABlock() {
        Wire whole = new Wire().head().size(2).add(transaction()).small(3);
        reads("whole block", whole, true, 2, -1);
        for (int n = 0; n < whole.length(); n++) {
            reads("block of " + n + " bytes", cut(whole, n), true, -2, n);
        }
    }

    private static void textGoesOn() {
        for (int more = 1; more <= 20; more++) {
            reads("transaction and more", transaction().fill(0, more), false, -5, transaction().length());
            reads("block and more", new Wire().head().size(1).small(1).fill(255, more), true, -5, 91);
            reads("empty block and more", new Wire().head().size(0).fill(254, more), true, -5, 81);
        }
    }

    /** The texts up to each of the five sizes that there are, and what may stand there at most. */
    private static Wire[] begins() {
        return new Wire[] {
            new Wire().low(1, 4),
            new Wire().low(1, 4).size(1).fill(1, 36),
            new Wire().low(1, 4).size(0),
            new Wire().low(1, 4).size(0).size(1).fill(1, 8),
            new Wire().head(),
        };
    }

    private static final int[] LIMITS = {8, 200, 8, 200, 12};

    private static void sizesTooLong() {
        long[][] tooSmall = {{0, 1, 5, 8, 252}, {0, 1, 8, 253, 65535}, {0, 1, 8, 253, 65536, 4294967295L}};
        for (int s = 0; s < LIMITS.length; s++) {
            int place = begins()[s].length();
            for (int mark = 253; mark <= 255; mark++) {
                for (long v : tooSmall[mark - 253]) {
                    Wire wire = begins()[s].wideSize(mark, v);
                    reads("size " + s + " as " + mark + " " + v, wire, s == 4, -3, place);
                    reads("size " + s + " as " + mark + " " + v + " and more", wire.fill(0, 300), s == 4, -3, place);
                }
            }
        }
    }

    private static void sizesTooMuch() {
        for (int s = 0; s < LIMITS.length; s++) {
            int place = begins()[s].length();
            long[] tooMuch = {LIMITS[s] + 1, 201, 252, 253, 254, 255, 256, 256 + 1, 65535, 65536, 65537, 70000,
                2147483648L, 4294967295L, 4294967296L, 4294967297L, Long.MAX_VALUE, Long.MIN_VALUE, -1};
            for (long v : tooMuch) {
                Wire wire = begins()[s].size(v);
                reads("size " + s + " with " + v, wire, s == 4, -4, place);
                reads("size " + s + " with " + v + " and more", wire.fill(0, 700), s == 4, -4, place);
            }
        }
    }

    /** Longer than it must be, and more than there may be, at one place: the document names the first of these first. */
    private static void bothFaultsOfASize() {
        for (int s = 0; s < LIMITS.length; s++) {
            int place = begins()[s].length();
            reads("size " + s + " both", begins()[s].wideSize(253, LIMITS[s] + 1), s == 4, -3, place);
            reads("size " + s + " both", begins()[s].wideSize(254, 65535), s == 4, -3, place);
            reads("size " + s + " both", begins()[s].wideSize(255, 4294967295L), s == 4, -3, place);
        }
    }

    private static void unendedSizes() {
        for (int s = 0; s < LIMITS.length; s++) {
            for (int mark = 253; mark <= 255; mark++) {
                int width = mark == 253 ? 2 : mark == 254 ? 4 : 8;
                for (int n = 0; n < width; n++) {
                    for (int b = 0; b <= 255; b += 255) {
                        Wire wire = begins()[s].low(mark, 1).fill(b, n);
                        reads("unended size " + s, wire, s == 4, -2, wire.length());
                    }
                }
            }
        }
    }

    private static void limitsAreAllowed() {
        Wire inputs = new Wire().low(1, 4).size(8);
        Wire outputs = new Wire().low(1, 4).size(0).size(8);
        for (int i = 0; i < 8; i++) {
            inputs.input(i, i, i == 3 ? 200 : 0, i);
            outputs.output(i, i, i == 5 ? 200 : 0);
        }
        reads("8 inputs", inputs.size(0).low(0, 4), false, 1, -1);
        reads("8 outputs", outputs.low(0, 4), false, 1, -1);
        Wire full = new Wire().low(1, 4).size(8);
        for (int i = 0; i < 8; i++) {
            full.input(i, i, 200, i);
        }
        full.size(1).output(1, 1, 53).low(0, 4);
        Check.due("length of the full text", full.length(), 2000);
        reads("2000 bytes", full, false, 1, -1);
    }

    private static void nothingIsTooFew() {
        reads("no inputs, no outputs", new Wire().small(1), false, 1, -1);
        reads("empty scripts", new Wire().low(1, 4).size(1).input(1, 1, 0, 1).size(1).output(1, 1, 0).low(1, 4), false, 1, -1);
        reads("no transactions", new Wire().head().size(0), true, 0, -1);
    }

    private static void countsOfTransactions() {
        for (int n = 0; n <= 13; n++) {
            Wire wire = new Wire().head().size(n);
            for (int t = 0; t < n; t++) {
                wire.small(t);
            }
            reads(n + " transactions", wire, true, n == 13 ? -4 : n, n == 13 ? 80 : -1);
        }
    }

    private static void firstFaultIsTold() {
        Wire longThenMuch = new Wire().low(1, 4).size(1).fill(1, 36).wideSize(253, 3).fill(0, 3).low(0, 4).size(9);
        reads("a long size, then too much", longThenMuch, false, -3, 41);
        Wire muchThenLong = new Wire().low(1, 4).size(0).size(9).wideSize(254, 3);
        reads("too much, then a long size", muchThenLong, false, -4, 5);
        Wire secondTransaction = new Wire().head().size(3).small(1).low(1, 4).size(0).size(77).fill(0, 20);
        reads("a fault in the second transaction", secondTransaction, true, -4, 96);
        Wire secondScript = new Wire().low(1, 4).size(0).size(2).output(1, 1, 5).low(3, 8).size(201).fill(0, 300);
        reads("a fault in the second output", secondScript, false, -4, 28);
        Wire shortScript = new Wire().low(1, 4).size(1).fill(1, 36).size(200).fill(1, 203);
        reads("a script without its end", shortScript, false, -2, 245);
    }

    private static void textIsGone() {
        WireDesk x = new Wire().small(1).desk();
        Check.due("read", x.read(false), 1);
        Check.due("read again", x.read(false), -2);
        Check.due("its place", x.place(), 0);
        new Wire().small(1).fill(3, 3).give(x);
        Check.due("read with a fault", x.read(false), -5);
        Check.due("read again after a fault", x.read(true), -2);
        Check.due("its place after a fault", x.place(), 0);
        new Wire().small(2).give(x);
        Check.due("read a new text", x.read(false), 1);
        Check.due("its version", x.look(0, 0), 2);
    }

    private static void faultForgetsWhatWasRead() {
        WireDesk x = new Wire().head().size(2).small(1).small(1).desk();
        Check.due("read", x.read(true), 2);
        Check.due("doubtful", x.isDoubtful(), true);
        new Wire().head().size(2).small(1).give(x);
        Check.due("read with a fault", x.read(true), -2);
        Check.due("byteOf", x.byteOf(0), -1);
        Check.due("head", x.head(0), -1);
        Check.due("look", x.look(0, 0), -1);
        Check.due("input", x.input(0, 0, 0), -1);
        Check.due("output", x.output(0, 0, 0), -1);
        for (int t = -3; t <= 1; t++) {
            Check.due("name " + t, x.name(t, 0), 0);
        }
        Check.due("doubtful after a fault", x.isDoubtful(), false);
    }

    private static void placeIsOfTheLastReading() {
        WireDesk x = new Wire().small(1).fill(0, 1).desk();
        Check.due("place before reading", x.place(), -1);
        Check.due("read with a fault", x.read(false), -5);
        Check.due("place", x.place(), 10);
        Check.due("place again", x.place(), 10);
        new Wire().low(1, 4).size(9).give(x);
        Check.due("place before the next reading", x.place(), 10);
        Check.due("a refused put", x.put(1, 9), false);
        Check.due("place after a refused call", x.place(), 10);
        Check.due("read with another fault", x.read(false), -4);
        Check.due("place of the other fault", x.place(), 4);
        new Wire().small(1).give(x);
        Check.due("read without a fault", x.read(false), 1);
        Check.due("place after no fault", x.place(), -1);
    }

    private static void laterTextLeavesWhatWasRead() {
        WireDesk x = new Wire().small(0x01020304).desk();
        Check.due("read", x.read(false), 1);
        long name = x.name(0, 0);
        new Wire().fill(0xAA, 40).give(x);
        Check.due("byte after new text", x.byteOf(0), 4);
        Check.due("byte behind the end after new text", x.byteOf(10), -1);
        Check.due("version after new text", x.look(0, 0), 0x01020304);
        Check.due("name after new text", x.name(0, 0), name);
        Check.due("place after new text", x.place(), -1);
    }

    private static void bytesOfWhatWasRead() {
        byte[] text = new Wire().low(1, 4).size(0).size(1).output(200, 9, 200).low(0xFEDCBA98L, 4).bytes();
        WireDesk x = Wire.of(text).desk();
        Check.due("byte before reading", x.byteOf(0), -1);
        Check.due("read", x.read(false), 1);
        for (int i = 0; i < text.length; i++) {
            Check.due("byte " + i, x.byteOf(i), text[i] & 255);
        }
        int[] none = {-1, -2, text.length, text.length + 1, 1999, 2000, 2001, Integer.MIN_VALUE, Integer.MAX_VALUE};
        for (int i : none) {
            Check.due("byte " + i, x.byteOf(i), -1);
        }
        new Wire().small(1).give(x);
        Check.due("read a shorter text", x.read(false), 1);
        Check.due("its last byte", x.byteOf(9), 0);
        Check.due("behind its last byte", x.byteOf(10), -1);
    }
}
