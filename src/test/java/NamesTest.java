import java.util.ArrayList;
import java.util.Arrays;
import java.util.List;

/** Promises 12 and 13: name, isDoubtful. */
public final class NamesTest {
    public static void main(String[] args) {
        namesOfEveryLength();
        nameOfTheFullText();
        rootsOfEveryCount();
        noRootWithoutTransactions();
        wrongWishes();
        noBlockNamesOfATransaction();
        doubtfulRows();
        doubtIsOfTheLastReading();
        genesis();
        Check.end();
    }

    private static void nameIs(String what, WireDesk x, int t, byte[] want) {
        for (int k = 0; k < 4; k++) {
            Check.due(what + ", eight bytes " + k, x.name(t, k), Wire.eight(want, 8 * k));
        }
    }

    /** Every way in which the last bytes can fall into the digest's rows of 64. */
    private static void namesOfEveryLength() {
        for (int n = 0; n <= 200; n++) {
            Wire wire = new Wire().low(1, 4).size(0).size(1).output(n, n, n).low(n, 4);
            WireDesk x = wire.desk();
            Check.due("read", x.read(false), 1);
            nameIs("name of " + wire.length() + " bytes", x, 0, Wire.nameOf(wire.bytes()));
        }
    }

    private static void nameOfTheFullText() {
        Wire wire = new Wire().low(1, 4).size(8);
        for (int i = 0; i < 8; i++) {
            wire.input(i, i, 200, i);
        }
        wire.size(1).output(1, 1, 53).low(0, 4);
        WireDesk x = wire.desk();
        Check.due("read", x.read(false), 1);
        nameIs("name of " + wire.length() + " bytes", x, 0, Wire.nameOf(wire.bytes()));
    }

    private static Wire blockOf(int... versions) {
        Wire wire = new Wire().head().size(versions.length);
        for (int version : versions) {
            wire.small(version);
        }
        return wire;
    }

    private static List<byte[]> namesOf(int... versions) {
        List<byte[]> names = new ArrayList<>();
        for (int version : versions) {
            names.add(Wire.nameOf(new Wire().small(version).bytes()));
        }
        return names;
    }

    private static void rootsOfEveryCount() {
        WireDesk same = new WireDesk();
        for (int count = 0; count <= 12; count++) {
            int[] versions = new int[count];
            for (int t = 0; t < count; t++) {
                versions[t] = 1000 + t;
            }
            WireDesk x = blockOf(versions).desk();
            Check.due("read", x.read(true), count);
            List<byte[]> names = namesOf(versions);
            for (int t = 0; t < count; t++) {
                nameIs("name " + t + " of " + count, x, t, names.get(t));
            }
            nameIs("name of the block", x, -1, Wire.nameOf(new Wire().head().bytes()));
            nameIs("root in the head", x, -2, new Wire().count(91, 32).bytes());
            nameIs("root of " + count, x, -3, Model.root(names));
            Check.due("doubt in " + count, x.isDoubtful(), false);
            blockOf(versions).give(same);
            Check.due("read by one object", same.read(true), count);
            nameIs("root of " + count + " by one object", same, -3, Model.root(names));
        }
    }

    private static void noRootWithoutTransactions() {
        WireDesk x = blockOf(1, 2, 3).desk();
        Check.due("read", x.read(true), 3);
        blockOf().give(x);
        Check.due("read an empty block", x.read(true), 0);
        nameIs("root of none", x, -3, new byte[32]);
        nameIs("name of the empty block", x, -1, Wire.nameOf(new Wire().head().bytes()));
        Check.due("doubt in none", x.isDoubtful(), false);
    }

    private static void wrongWishes() {
        WireDesk x = blockOf(1, 2).desk();
        Check.due("name before reading", x.name(0, 0), 0);
        Check.due("read", x.read(true), 2);
        for (int t : new int[] {-5, -4, 2, 3, 11, 12, 13, 1 << 27, Integer.MIN_VALUE, Integer.MAX_VALUE}) {
            for (int k = 0; k < 4; k++) {
                Check.due("name " + t + " " + k, x.name(t, k), 0);
            }
        }
        for (int k : new int[] {-1, -2, 4, 5, 8, 1 << 29, Integer.MIN_VALUE, Integer.MAX_VALUE}) {
            for (int t = -4; t <= 2; t++) {
                Check.due("name " + t + " " + k, x.name(t, k), 0);
            }
        }
    }

    private static void noBlockNamesOfATransaction() {
        Wire wire = new Wire().low(1, 4).size(0).size(1).output(1, 1, 100).low(5, 4);
        WireDesk x = blockOf(1, 1).desk();
        Check.due("read", x.read(true), 2);
        wire.give(x);
        Check.due("read a transaction", x.read(false), 1);
        nameIs("its name", x, 0, Wire.nameOf(wire.bytes()));
        for (int t = -4; t < 0; t++) {
            nameIs("name " + t + " of a transaction", x, t, new byte[32]);
        }
        Check.due("doubt in a transaction", x.isDoubtful(), false);
    }

    private static void doubt(boolean want, int... versions) {
        WireDesk x = blockOf(versions).desk();
        Check.due("read", x.read(true), versions.length);
        Check.due("doubt in " + Arrays.toString(versions), x.isDoubtful(), want);
        nameIs("root of " + Arrays.toString(versions), x, -3, Model.root(namesOf(versions)));
    }

    private static void doubtfulRows() {
        doubt(false, 1);
        doubt(false, 1, 2);
        doubt(true, 1, 1);
        doubt(false, 1, 2, 3);
        doubt(true, 1, 2, 3, 3);
        doubt(true, 1, 1, 2);
        // Alike, but not put together with one another.
        doubt(false, 1, 2, 2);
        doubt(false, 1, 2, 2, 3);
        doubt(false, 1, 2, 1);
        doubt(false, 1, 2, 1, 3);
        // Alike one row later.
        doubt(true, 1, 2, 1, 2);
        doubt(true, 1, 2, 3, 4, 5, 6, 5, 6);
        doubt(false, 1, 2, 3, 4, 3, 4);
        doubt(false, 1, 2, 3, 4, 5, 6);
        doubt(false, 1, 2, 3, 4, 5, 6, 7);
        // Alike two rows later.
        doubt(true, 1, 2, 3, 4, 1, 2, 3, 4);
        doubt(true, 1, 2, 3, 4, 1, 2, 3, 4, 5, 6, 7, 8);
        // A row of nine ends with one put together with itself, row after row.
        doubt(false, 1, 2, 3, 4, 5, 6, 7, 8, 9);
        doubt(true, 1, 2, 3, 4, 5, 6, 7, 8, 9, 9);
        doubt(true, 1, 2, 3, 4, 5, 6, 7, 8, 9, 10, 9, 10);
        doubt(false, 1, 2, 3, 4, 5, 6, 7, 8, 9, 10, 11, 12);
        doubt(true, 1, 2, 3, 4, 5, 6, 7, 8, 9, 10, 11, 11);
        // The first of the pairs is alike, the last one is not.
        doubt(true, 7, 7, 3, 4, 5, 6, 8, 9);
    }

    private static void doubtIsOfTheLastReading() {
        WireDesk x = blockOf(1, 1).desk();
        Check.due("doubt before reading", x.isDoubtful(), false);
        Check.due("read", x.read(true), 2);
        Check.due("doubt", x.isDoubtful(), true);
        blockOf(1, 2).give(x);
        Check.due("doubt with new text", x.isDoubtful(), true);
        Check.due("read without doubt", x.read(true), 2);
        Check.due("no doubt", x.isDoubtful(), false);
    }

    /** The first block of a chain that the world knows, with names that the world knows. */
    private static void genesis() {
        String root = "3ba3edfd7a7b12b27ac72c3e67768f617fc81bc3888a51323a9fb8aa4b1e5e4a";
        String zeros = "00".repeat(32);
        Wire block = Wire.ofHex("01000000" + zeros + root + "29ab5f49ffff001d1dac2b7c" + "01"
            + "0100000001" + zeros + "ffffffff4d04ffff001d0104455468652054696d65732030332f4a616e2f32303039204368616e63"
            + "656c6c6f72206f6e206272696e6b206f66207365636f6e64206261696c6f757420666f722062616e6b73ffffffff01"
            + "00f2052a01000000434104678afdb0fe5548271967f1a67130b7105cd6a828e03909a67962e0ea1f61deb649f6bc3f4cef38"
            + "c4f35504e51ec112de5c384df7ba0b8d578a4c702b6bf11d5fac00000000");
        WireDesk x = block.desk();
        Check.due("read", x.read(true), 1);
        nameIs("name of its transaction", x, 0, Wire.ofHex(root).bytes());
        nameIs("root in its head", x, -2, Wire.ofHex(root).bytes());
        nameIs("root of its names", x, -3, Wire.ofHex(root).bytes());
        nameIs("its name", x, -1,
            Wire.ofHex("6fe28c0ab6f1b372c1a6a246ae63f74f931e8365e15a089c68d6190000000000").bytes());
        Check.due("its value", x.output(0, 0, 0), 5000000000L);
        Check.due("its script", x.input(0, 0, 3), 77);
        Check.due("doubt", x.isDoubtful(), false);
    }
}
