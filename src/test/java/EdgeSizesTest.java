/** 'Terms', the sentences on numbers and sizes. */
public final class EdgeSizesTest {
    private static final int TOO_LONG = -3;
    private static final int TOO_MUCH = -4;

    public static void main(String[] args) {
        lowFirst();
        oneByteBelow253();
        twoBytes();
        fourBytes();
        eightBytes();
        asShortAsItCan();
        Check.end();
    }

    /** The texts up to each size that there is, in a transaction by itself, in a block, and in its second transaction. */
    private static Wire begin(int where) {
        Wire wire = new Wire();
        if (where == 0) {
            return wire.head();
        }
        if (where > 4) {
            wire.head().size(12);
        }
        if (where > 8) {
            wire.add(Wire.whole(70));
        }
        wire.low(1, 4);
        switch (where % 4) {
            case 1:
                return wire;
            case 2:
                return wire.size(1).fill(253, 36);
            case 3:
                return wire.size(0);
            default:
                return wire.size(0).size(1).fill(254, 8);
        }
    }

    private static final int WHERES = 13;

    private static boolean isBlock(int where) {
        return where == 0 || where > 4;
    }

    /** That these bytes, as a size, have this fault, wherever a size can stand and whatever follows. */
    private static void fault(int answer, int... bytes) {
        for (int where = 0; where < WHERES; where++) {
            for (int more = 0; more <= 400; more += 400) {
                Wire wire = begin(where);
                int place = wire.length();
                for (int b : bytes) {
                    wire.low(b, 1);
                }
                WireDesk x = wire.fill(0, more).desk();
                String what = java.util.Arrays.toString(bytes) + " as size " + where + " with " + more + " behind it: ";
                Check.due(what + "read", x.read(isBlock(where)), answer);
                Check.due(what + "place", x.place(), place);
            }
        }
    }

    private static void lowFirst() {
        Check.sentence("Terms",
            "what has n bytes LOW FIRST is a number of which the first byte counts 1, the next one 256, and so on");
        for (int at = 0; at < 4; at++) {
            WireDesk x = new Wire().fill(0, at).fill(1, 1).fill(0, 3 - at).size(0).size(0).low(0, 4).desk();
            Check.due("read", x.read(false), 1);
            Check.due("version with a 1 as byte " + at, x.look(0, 0), 1L << (8 * at));
        }
        for (int at = 0; at < 8; at++) {
            WireDesk x = new Wire().low(1, 4).size(0).size(1).fill(0, at).fill(255, 1).fill(0, 7 - at).size(0).low(0, 4).desk();
            Check.due("read", x.read(false), 1);
            Check.due("value with a 255 as byte " + at, x.output(0, 0, 0), 255L << (8 * at));
        }
    }

    private static void oneByteBelow253() {
        Check.sentence("Terms", "A SIZE is one byte below 253");
        for (int n = 0; n <= 200; n++) {
            WireDesk x = new Wire().low(1, 4).size(0).size(1).low(5, 8).low(n, 1).fill(255, n).low(7, 4).desk();
            Check.due("read of a script of " + n, x.read(false), 1);
            Check.due("its bytes", x.output(0, 0, 2), n);
        }
        fault(TOO_MUCH, 201);
        fault(TOO_MUCH, 251);
        fault(TOO_MUCH, 252);
    }

    /** Numbers that need two bytes are more than there may be, wherever they stand. */
    private static void twoBytes() {
        Check.sentence("Terms", "or 253 and two bytes low first");
        fault(TOO_LONG, 253, 252, 0);
        fault(TOO_MUCH, 253, 253, 0);
        fault(TOO_LONG, 253, 1, 0);
        fault(TOO_MUCH, 253, 0, 1);
        fault(TOO_MUCH, 253, 0, 128);
        fault(TOO_MUCH, 253, 255, 255);
    }

    private static void fourBytes() {
        Check.sentence("Terms", "or 254 and four");
        fault(TOO_LONG, 254, 255, 255, 0, 0);
        fault(TOO_MUCH, 254, 0, 0, 1, 0);
        fault(TOO_LONG, 254, 0, 1, 0, 0);
        fault(TOO_MUCH, 254, 0, 0, 0, 1);
        fault(TOO_MUCH, 254, 0, 0, 0, 128);
        fault(TOO_MUCH, 254, 255, 255, 255, 255);
    }

    private static void eightBytes() {
        Check.sentence("Terms", "or 255 and eight");
        fault(TOO_LONG, 255, 255, 255, 255, 255, 0, 0, 0, 0);
        fault(TOO_MUCH, 255, 0, 0, 0, 0, 1, 0, 0, 0);
        fault(TOO_LONG, 255, 0, 0, 0, 1, 0, 0, 0, 0);
        fault(TOO_MUCH, 255, 1, 0, 0, 0, 1, 0, 0, 0);
        fault(TOO_MUCH, 255, 0, 0, 0, 0, 0, 0, 0, 1);
        fault(TOO_MUCH, 255, 255, 255, 255, 255, 255, 255, 255, 127);
        fault(TOO_MUCH, 255, 0, 0, 0, 0, 0, 0, 0, 128);
        fault(TOO_MUCH, 255, 5, 0, 0, 0, 0, 0, 0, 128);
        fault(TOO_MUCH, 255, 255, 255, 255, 255, 255, 255, 255, 255);
    }

    /** Numbers that there may be, and 0 itself, each in all the widths that it does not need. */
    private static void asShortAsItCan() {
        Check.sentence("Terms", "it must be as short as it can");
        for (int v : new int[] {0, 1, 2, 8, 12, 200, 252}) {
            fault(TOO_LONG, 253, v, 0);
            fault(TOO_LONG, 254, v, 0, 0, 0);
            fault(TOO_LONG, 255, v, 0, 0, 0, 0, 0, 0, 0);
        }
        fault(TOO_LONG, 254, 253, 0, 0, 0);
        fault(TOO_LONG, 255, 253, 0, 0, 0, 0, 0, 0, 0);
        fault(TOO_LONG, 255, 0, 0, 1, 0, 0, 0, 0, 0);
    }
}
