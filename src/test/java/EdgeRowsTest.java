import java.util.ArrayList;
import java.util.Arrays;
import java.util.List;

/** 'Terms', the sentences on digests, names, rows of names and doubt. */
public final class EdgeRowsTest {
    public static void main(String[] args) {
        digest();
        digestOfDigest();
        transactionsName();
        blocksName();
        moreThanOne();
        fromTheFirstOn();
        lastWithItself();
        noneAtAll();
        neighboursAlike();
        notOneWithItself();
        Check.end();
    }

    private static void nameIs(String what, WireDesk x, int t, byte[] want) {
        for (int k = 0; k < 4; k++) {
            Check.due(what + ", eight bytes " + k, x.name(t, k), Wire.eight(want, 8 * k));
        }
    }

    /** Bytes that end just before, at, and just behind each edge of the digest's padding, up to the longest there are. */
    private static void digest() {
        Check.sentence("Terms", "The DIGEST is SHA-256 (FIPS 180-4), of 32 bytes");
        for (int edge = 64; edge <= 2048; edge += 64) {
            for (int length : new int[] {edge - 10, edge - 9, edge - 8, edge - 7, edge - 1, edge, edge + 1}) {
                if (length <= 2000) {
                    Wire wire = Wire.whole(length);
                    WireDesk x = wire.desk();
                    Check.due("read", x.read(false), 1);
                    nameIs("name of " + length + " bytes", x, 0, Wire.nameOf(wire.bytes()));
                }
            }
        }
    }

    /** A name that the world knows, so that not only the Java library's digest vouches for it. */
    private static void digestOfDigest() {
        Check.sentence("Terms", "the NAME of a row of bytes is the digest of the digest of it");
        WireDesk x = Wire.ofHex("0100000000000000000000000000000000000000000000000000000000000000000000003ba3edfd7a7b12b27ac7"
            + "2c3e67768f617fc81bc3888a51323a9fb8aa4b1e5e4a29ab5f49ffff001d1dac2b7c").size(0).desk();
        Check.due("read", x.read(true), 0);
        nameIs("name of a well known head", x, -1,
            Wire.ofHex("6fe28c0ab6f1b372c1a6a246ae63f74f931e8365e15a089c68d6190000000000").bytes());
        nameIs("root in a well known head", x, -2,
            Wire.ofHex("3ba3edfd7a7b12b27ac72c3e67768f617fc81bc3888a51323a9fb8aa4b1e5e4a").bytes());
    }

    private static void transactionsName() {
        Check.sentence("Terms", "A transaction's name is that of its bytes");
        Wire first = Wire.whole(10);
        Wire second = Wire.whole(300);
        Wire third = new Wire().low(5, 4).size(1).input(1, 2, 0, 3).size(0).low(6, 4);
        WireDesk x = new Wire().head().size(3).add(first).add(second).add(third).desk();
        Check.due("read", x.read(true), 3);
        nameIs("name of the shortest one", x, 0, Wire.nameOf(first.bytes()));
        nameIs("name of the one between", x, 1, Wire.nameOf(second.bytes()));
        nameIs("name of the last one", x, 2, Wire.nameOf(third.bytes()));
    }

    /** Nothing behind the head has a part in it, and every byte of the head has. */
    private static void blocksName() {
        Check.sentence("Terms", "a block's that of its head");
        byte[] want = Wire.nameOf(new Wire().head().bytes());
        for (int count = 0; count <= 12; count += 4) {
            WireDesk x = blockOf(row(count)).desk();
            Check.due("read", x.read(true), count);
            nameIs("name of a block of " + count, x, -1, want);
        }
        for (int at : new int[] {0, 3, 4, 35, 36, 67, 68, 79}) {
            byte[] head = new Wire().head().bytes();
            head[at] ^= 1;
            WireDesk x = Wire.of(head).size(0).desk();
            Check.due("read", x.read(true), 0);
            nameIs("name with another byte " + at, x, -1, Wire.nameOf(head));
        }
    }

    private static int[] row(int count) {
        int[] versions = new int[count];
        for (int t = 0; t < count; t++) {
            versions[t] = 500 + t;
        }
        return versions;
    }

    private static Wire blockOf(int... versions) {
        Wire wire = new Wire().head().size(versions.length);
        for (int version : versions) {
            wire.small(version);
        }
        return wire;
    }

    private static byte[] nameOf(int version) {
        return Wire.nameOf(new Wire().small(version).bytes());
    }

    private static byte[] pair(byte[] left, byte[] right) {
        return Wire.nameOf(Wire.of(left).add(Wire.of(right)).bytes());
    }

    private static void rootIs(byte[] want, int... versions) {
        WireDesk x = blockOf(versions).desk();
        Check.due("read", x.read(true), versions.length);
        nameIs("root of " + Arrays.toString(versions), x, -3, want);
    }

    private static void moreThanOne() {
        Check.sentence("Terms", "A ROW OF NAMES is put together: as long as there are more than one");
        rootIs(nameOf(7), 7);
        rootIs(pair(nameOf(7), nameOf(8)), 7, 8);
    }

    private static void fromTheFirstOn() {
        Check.sentence("Terms", "each two neighbours, from the first on | become the name of their 64 bytes");
        byte[] left = pair(pair(nameOf(1), nameOf(2)), pair(nameOf(3), nameOf(4)));
        byte[] right = pair(pair(nameOf(5), nameOf(6)), pair(nameOf(7), nameOf(8)));
        rootIs(left, 1, 2, 3, 4);
        rootIs(pair(left, right), 1, 2, 3, 4, 5, 6, 7, 8);
        rootIs(pair(pair(nameOf(2), nameOf(1)), pair(nameOf(4), nameOf(3))), 2, 1, 4, 3);
    }

    /** Every odd row that there is, in the first round and in later ones. */
    private static void lastWithItself() {
        Check.sentence("Terms", "(the last one with itself, if it has none)");
        byte[] three = pair(nameOf(3), nameOf(3));
        rootIs(pair(pair(nameOf(1), nameOf(2)), three), 1, 2, 3);
        byte[] four = pair(pair(nameOf(1), nameOf(2)), pair(nameOf(3), nameOf(4)));
        byte[] five = pair(nameOf(5), nameOf(5));
        rootIs(pair(four, pair(five, five)), 1, 2, 3, 4, 5);
        byte[] six = pair(nameOf(5), nameOf(6));
        rootIs(pair(four, pair(six, six)), 1, 2, 3, 4, 5, 6);
        for (int count = 7; count <= 12; count++) {
            int[] versions = row(count);
            List<byte[]> names = new ArrayList<>();
            for (int version : versions) {
                names.add(nameOf(version));
            }
            rootIs(Model.root(names), versions);
        }
    }

    /** By a new object, and by one that had a root before. */
    private static void noneAtAll() {
        Check.sentence("Terms", "what is left is the root (32 bytes 0, if there was none)");
        rootIs(new byte[32]);
        for (int before = 1; before <= 12; before++) {
            WireDesk x = blockOf(row(before)).desk();
            Check.due("read", x.read(true), before);
            blockOf().give(x);
            Check.due("read of none", x.read(true), 0);
            nameIs("root of none after one of " + before, x, -3, new byte[32]);
        }
    }

    private static void doubt(boolean want, int... versions) {
        WireDesk x = blockOf(versions).desk();
        Check.due("read", x.read(true), versions.length);
        Check.due("doubt in " + Arrays.toString(versions), x.isDoubtful(), want);
    }

    private static void neighboursAlike() {
        Check.sentence("Terms", "It is DOUBTFUL if anywhere two neighbours | were alike");
        for (int count = 2; count <= 12; count++) {
            for (int at = 0; at + 1 < count; at += 2) {
                int[] versions = row(count);
                versions[at + 1] = versions[at];
                doubt(true, versions);
            }
        }
        doubt(true, 1, 2, 1, 2);
        doubt(true, 1, 2, 3, 4, 5, 6, 5, 6);
        doubt(true, 1, 2, 3, 4, 5, 6, 7, 8, 9, 10, 9, 10);
        doubt(true, 1, 2, 3, 4, 1, 2, 3, 4);
        doubt(true, 1, 2, 3, 4, 1, 2, 3, 4, 5);
        doubt(true, 1, 2, 3, 4, 5, 5);
        doubt(true, 4, 4, 4);
        // Alike, but not put together with one another.
        doubt(false, 1, 2, 2, 1);
        doubt(false, 1, 2, 2, 3);
        doubt(false, 1, 2, 1, 3);
        doubt(false, 1, 2, 2);
        doubt(false, 1, 2, 3, 4, 3, 4);
    }

    private static void notOneWithItself() {
        Check.sentence("Terms", "(not one with itself)");
        for (int count = 0; count <= 12; count++) {
            doubt(false, row(count));
        }
    }
}
