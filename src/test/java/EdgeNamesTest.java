/** Promises 12 and 13, sentence by sentence. */
public final class EdgeNamesTest {
    public static void main(String[] args) {
        eightBytes();
        onlyFourEights();
        ofTransaction();
        ofTheBlock();
        rootInItsHead();
        rootOfItsNames();
        noName();
        doubtOfTheBlock();
        noDoubtWithoutABlock();
        Check.end();
    }

    private static WireDesk read(Wire wire, boolean block, int answer) {
        WireDesk x = wire.desk();
        Check.due("read", x.read(block), answer);
        return x;
    }

    private static void nameIs(String what, WireDesk x, int t, byte[] want) {
        for (int k = 0; k < 4; k++) {
            Check.due(what + ", eight bytes " + k, x.name(t, k), Wire.eight(want, 8 * k));
        }
    }

    /** The root in a head can have any bytes: here each one alone, with and without its highest bit. */
    private static void eightBytes() {
        Check.sentence("Promise 12", "Eight bytes, from byte 8 * k on | the first one highest");
        for (int at = 0; at < 32; at++) {
            for (int b : new int[] {1, 128, 255}) {
                WireDesk x = read(new Wire().fill(0, 36 + at).fill(b, 1).fill(0, 31 - at).fill(0, 12).size(0), true, 0);
                for (int k = 0; k < 4; k++) {
                    long want = at / 8 == k ? (long) b << (8 * (7 - at % 8)) : 0;
                    Check.due("eight bytes " + k + " with " + b + " at " + at, x.name(-2, k), want);
                }
            }
        }
    }

    private static Wire block(int... versions) {
        Wire wire = new Wire().fill(255, 4).count(1, 32).fill(254, 32).fill(253, 12).size(versions.length);
        for (int version : versions) {
            wire.small(version);
        }
        return wire;
    }

    private static void onlyFourEights() {
        Check.sentence("Promise 12", "(k 0 .. 3)");
        WireDesk x = read(block(1, 2, 3), true, 3);
        for (int k : new int[] {-2, -1, 4, 5, 1 << 28, 1 << 29, (1 << 29) + 1, -(1 << 29), Integer.MIN_VALUE, Integer.MAX_VALUE}) {
            for (int t = -4; t <= 3; t++) {
                Check.due("name " + t + " " + k, x.name(t, k), 0);
            }
        }
        for (int t = -3; t <= 2; t++) {
            Check.due("name " + t + " 0 is there", x.name(t, 0) != 0, true);
            Check.due("name " + t + " 3 is there", x.name(t, 3) != 0, true);
        }
    }

    private static void ofTransaction() {
        Check.sentence("Promise 12", "of a name: of transaction t");
        int[] versions = {0, 1, 2, 3, 4, 5, 6, 7, 8, 9, 10, 11};
        WireDesk x = read(block(versions), true, 12);
        for (int t = 0; t < 12; t++) {
            nameIs("name of " + t, x, t, Wire.nameOf(new Wire().small(t).bytes()));
        }
        WireDesk alone = read(Wire.whole(2000), false, 1);
        nameIs("name of one alone", alone, 0, Wire.nameOf(Wire.whole(2000).bytes()));
    }

    private static void ofTheBlock() {
        Check.sentence("Promise 12", "for t = -1 of the block");
        byte[] want = Wire.nameOf(java.util.Arrays.copyOf(block().bytes(), 80));
        nameIs("name of an empty block", read(block(), true, 0), -1, want);
        nameIs("name of a block", read(block(1, 2), true, 2), -1, want);
    }

    private static void rootInItsHead() {
        Check.sentence("Promise 12", "for -2 the root in its head");
        byte[] root = new Wire().count(77, 32).bytes();
        Wire head = new Wire().fill(1, 36).add(Wire.of(root)).fill(2, 12);
        nameIs("root in an empty block's head", read(Wire.of(head.bytes()).size(0), true, 0), -2, root);
        nameIs("root in a block's head", read(Wire.of(head.bytes()).size(1).small(1), true, 1), -2, root);
    }

    private static void rootOfItsNames() {
        Check.sentence("Promise 12", "for -3 the root of its transactions' names");
        byte[] first = Wire.nameOf(new Wire().small(1).bytes());
        byte[] second = Wire.nameOf(new Wire().small(2).bytes());
        nameIs("root of one", read(block(1), true, 1), -3, first);
        nameIs("root of two", read(block(1, 2), true, 2), -3,
            Wire.nameOf(Wire.of(first).add(Wire.of(second)).bytes()));
        nameIs("root of none", read(block(), true, 0), -3, new byte[32]);
    }

    private static void noNameNow(String when, WireDesk x, int t) {
        nameIs("name " + t + " " + when, x, t, new byte[32]);
    }

    private static void noName() {
        Check.sentence("Promise 12", "0 if there is none");
        WireDesk fresh = new WireDesk();
        for (int t = -4; t <= 1; t++) {
            noNameNow("in a new object", fresh, t);
        }
        WireDesk x = read(block(1, 2), true, 2);
        for (int t : new int[] {-5, -4, 2, 3, 11, 12, 13, 1 << 27, -(1 << 27), 1 << 26, Integer.MIN_VALUE, Integer.MAX_VALUE}) {
            noNameNow("of two", x, t);
        }
        new Wire().small(1).give(x);
        Check.due("read of one", x.read(false), 1);
        for (int t : new int[] {-4, -3, -2, -1, 1, 2}) {
            noNameNow("of one alone", x, t);
        }
        block(1).fill(0, 1).give(x);
        Check.due("read with a fault", x.read(true), -5);
        for (int t = -4; t <= 1; t++) {
            noNameNow("with a fault", x, t);
        }
        block().give(x);
        Check.due("read of an empty block", x.read(true), 0);
        noNameNow("in an empty block", x, 0);
        noNameNow("in an empty block", x, -4);
    }

    private static void doubtOfTheBlock() {
        Check.sentence("Promise 13", "Whether the row of the names of the block's transactions is doubtful");
        WireDesk x = new WireDesk();
        int[][] rows = {{1, 1}, {1, 2}, {3, 4, 3, 4}, {}, {5, 5, 6}, {7}, {1, 2, 3}, {8, 8, 8}};
        boolean[] doubtful = {true, false, true, false, true, false, false, true};
        for (int r = 0; r < rows.length; r++) {
            block(rows[r]).give(x);
            Check.due("read", x.read(true), rows[r].length);
            Check.due("doubt in row " + r, x.isDoubtful(), doubtful[r]);
            Check.due("doubt asked again in row " + r, x.isDoubtful(), doubtful[r]);
        }
    }

    /** A transaction by itself, a fault and a new object have no row that could be doubtful. */
    private static void noDoubtWithoutABlock() {
        Check.sentence("Promise 13", "the block's transactions", "there may be no block");
        Check.due("doubt in a new object", new WireDesk().isDoubtful(), false);
        WireDesk x = read(block(1, 1), true, 2);
        new Wire().small(1).give(x);
        Check.due("doubt while a text is written", x.isDoubtful(), true);
        Check.due("read of one", x.read(false), 1);
        Check.due("doubt in one", x.isDoubtful(), false);
        block(1, 1).give(x);
        Check.due("read of a block", x.read(true), 2);
        block(1, 1).fill(0, 1).give(x);
        Check.due("read with a fault", x.read(true), -5);
        Check.due("doubt with a fault", x.isDoubtful(), false);
    }
}
