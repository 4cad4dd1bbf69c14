/** What the document says of the whole, and of which block, transaction, input and output a question is. */
public final class WholeTest {
    private static final String PARENT = "55bd840a78798ad0da853f68974f3d183e2bd1db6a842c1feecf222a00000000";
    private static final String ROOT = "ff104ccb05421ab93e63f8c3ce5c2c2e9dbb37de2764b3a3175c8166562cac7d";
    private static final String FIRST = "01000000010000000000000000000000000000000000000000000000000000000000000000ffffffff"
        + "0704ffff001d0102ffffffff0100f2052a01000000434104d46c4968bde02899d2aa0963367c7a6ce34eec332b32e42e5f3407e052d64ac6"
        + "25da6f0718e7b302140434bd725706957c092db53805b821a85b23a7ac61725bac00000000";
    private static final String SECOND = "0100000001c997a5e56e104102fa209c6a852dd90660a20b2d9c352423edce25857fcd3704000000"
        + "004847304402204e45e16932b8af514961a1d3a1a25fdf3f4f7732e9d624c6c61548ab5fb8cd410220181522ec8eca07de4860a4acdd12"
        + "909d831cc56cbbac4622082221a8768d1d0901ffffffff0200ca9a3b00000000434104ae1a62fe09c5f51b13905f07f06b99a2f7159b22"
        + "25f374cd378d71302fa28414e7aab37397f554a7df5f142c21c1b7303b8a0626f1baded5c72a704f7e6cd84cac00286bee000000004341"
        + "0411db93e1dcdb8a016b49840f8c53bc1eb68a382e97b1482ecad7b148a6909a5cb2e0eaddfb84ccf9744464f82e160bfa9b8b64f9d4c0"
        + "3f999b8643f656b412a3ac00000000";

    public static void main(String[] args) {
        asOverAWire();
        firstFaultTold();
        digestsOfDigests();
        rowsInPairs();
        oneOrTheOther();
        ofTheBlock();
        ofTransaction();
        ofInput();
        ofOutput();
        Check.end();
    }

    private static WireDesk read(Wire wire, boolean block, int answer) {
        WireDesk x = wire.desk();
        Check.due("read", x.read(block), answer);
        return x;
    }

    private static void nameIs(String what, WireDesk x, int t, String hex) {
        for (int k = 0; k < 4; k++) {
            Check.due(what + ", eight bytes " + k, x.name(t, k), Wire.eight(Wire.ofHex(hex).bytes(), 8 * k));
        }
    }

    /** A block of two transactions, number 170 of a chain whose names the world knows. */
    private static Wire knownBlock() {
        return Wire.ofHex("01000000" + PARENT + ROOT + "51b96a49ffff001d283e9e70" + "02" + FIRST + SECOND);
    }

    private static void asOverAWire() {
        Check.sentence("What it is", "Transactions and blocks as they go over a wire: read");
        WireDesk x = read(knownBlock(), true, 2);
        long[] heads = {1, 0x496ab951L, 0x1d00ffffL, 0x709e3e28L};
        for (int what = 0; what < 4; what++) {
            Check.due("head " + what, x.head(what), heads[what]);
        }
        Check.due("bytes of the first", x.look(0, 5), FIRST.length() / 2);
        Check.due("bytes of the second", x.look(1, 5), SECOND.length() / 2);
        Check.due("value of the first", x.output(0, 0, 0), 5000000000L);
        Check.due("value of the second's first", x.output(1, 0, 0), 1000000000L);
        Check.due("value of the second's second", x.output(1, 1, 0), 4000000000L);
        WireDesk y = read(Wire.ofHex(SECOND), false, 1);
        Check.due("its script alone", y.input(0, 0, 3), 72);
        Check.due("its value alone", y.output(0, 1, 0), 4000000000L);
    }

    private static void firstFaultTold() {
        Check.sentence("What it is", "with the first fault told");
        byte[] text = knownBlock().bytes();
        text[80 + 1 + 4] = 9;
        text[80 + 1 + FIRST.length() / 2 + 4] = (byte) 253;
        WireDesk x = Wire.of(text).fill(0, 1).desk();
        Check.due("read of a block with three faults", x.read(true), -4);
        Check.due("place of the first of them", x.place(), 85);
    }

    private static void digestsOfDigests() {
        Check.sentence("What it is", "named by digests of digests");
        WireDesk x = read(knownBlock(), true, 2);
        nameIs("name of the block", x, -1, "eea2d48d2fced4346842835c659e493d323f06d4034469a8905714d100000000");
        nameIs("name of the second", x, 1, "169e1e83e930853391bc6f35f605c6754cfead57cf8387639d3b4096c54f18f4");
        WireDesk y = read(Wire.ofHex(SECOND), false, 1);
        nameIs("name of the second alone", y, 0, "169e1e83e930853391bc6f35f605c6754cfead57cf8387639d3b4096c54f18f4");
    }

    private static void rowsInPairs() {
        Check.sentence("What it is", "and blocks' rows of names put together in pairs");
        WireDesk x = read(knownBlock(), true, 2);
        nameIs("root in the head", x, -2, ROOT);
        nameIs("root of the names", x, -3, ROOT);
        Check.due("doubt", x.isDoubtful(), false);
    }

    /** What stands before the fault is not there to be asked about either: reading stops with it. */
    private static void oneOrTheOther() {
        Check.sentence("Terms", "READING a text as one or the other stops with a FAULT");
        Wire block = new Wire().head().size(1).small(1);
        Check.due("a block read as one", block.desk().read(true), 1);
        Check.due("a transaction read as one", new Wire().small(1).desk().read(false), 1);
        WireDesk x = new Wire().low(2, 4).fill(9, 32).fill(0, 44).size(1).small(1).desk();
        Check.due("a block read as a transaction, with a parent that begins with 9", x.read(false), -1 - 3);
        Check.due("its place", x.place(), 4);
        WireDesk y = new Wire().small(1).desk();
        Check.due("a transaction read as a block", y.read(true), -1 - 1);
        Check.due("its place", y.place(), 10);
        WireDesk z = new Wire().head().size(2).small(1).low(2, 4).size(0).size(9).desk();
        Check.due("a fault in the second transaction", z.read(true), -1 - 3);
        Snapshot.nothingRead("a fault in the second transaction", z);
    }

    private static void ofTheBlock() {
        Check.sentence("Promise 8", "Of the block that was read");
        WireDesk x = new WireDesk();
        for (int turn = 1; turn <= 5; turn++) {
            new Wire().low(turn, 4).fill(turn, 64).low(10 + turn, 4).low(20 + turn, 4).low(30 + turn, 4).size(1)
                .small(77).give(x);
            Check.due("version before reading " + turn, x.head(0), turn == 1 ? -1 : turn - 1);
            Check.due("read", x.read(true), 1);
            Check.due("version after reading " + turn, x.head(0), turn);
            for (int what = 1; what < 4; what++) {
                Check.due("head " + what + " after reading " + turn, x.head(what), 10 * what + turn);
            }
        }
    }

    /** Twelve transactions with two inputs, or outputs, each; no number stands in two of them. */
    private static Wire block(boolean inputs) {
        Wire wire = new Wire().head().size(12);
        for (int t = 0; t < 12; t++) {
            wire.low(1000 + t, 4);
            if (inputs) {
                wire.size(2).input(t, 2000 + t, t, 3000 + t).input(t, 4000 + t, 0, 5000 + t).size(0);
            } else {
                wire.size(0).size(2).output(t, 2000 + t, t).output(t, 4000 + t, 0);
            }
            wire.low(6000 + t, 4);
        }
        return wire;
    }

    private static void ofTransaction() {
        Check.sentence("Promise 9", "Of transaction t, from 0 on");
        for (int way = 0; way < 2; way++) {
            WireDesk x = read(block(way == 0), true, 12);
            int begin = 81;
            for (int t = 0; t < 12; t++) {
                int bytes = way == 0 ? 10 + 82 + t : 10 + 18 + t;
                long[] want = {1000 + t, way == 0 ? 2 : 0, way == 0 ? 0 : 2, 6000 + t, begin, bytes};
                for (int what = 0; what < 6; what++) {
                    Check.due("look " + t + " " + what, x.look(t, what), want[what]);
                }
                begin += bytes;
            }
        }
        WireDesk alone = read(new Wire().small(9), false, 1);
        Check.due("version of one alone", alone.look(0, 0), 9);
    }

    private static void ofInput() {
        Check.sentence("Promise 10", "Of input i of transaction t");
        WireDesk x = read(block(true), true, 12);
        int begin = 81;
        for (int t = 0; t < 12; t++) {
            int first = begin + 5;
            int second = first + 41 + t;
            long[][] want = {{first, 2000 + t, first + 37, t, 3000 + t}, {second, 4000 + t, second + 37, 0, 5000 + t}};
            for (int i = 0; i < 2; i++) {
                for (int what = 0; what < 5; what++) {
                    Check.due("input " + t + " " + i + " " + what, x.input(t, i, what), want[i][what]);
                }
            }
            begin = second + 41 + 5;
        }
    }

    private static void ofOutput() {
        Check.sentence("Promise 11", "Of output i of transaction t");
        WireDesk x = read(block(false), true, 12);
        int begin = 81;
        for (int t = 0; t < 12; t++) {
            int first = begin + 6;
            int second = first + 9 + t;
            long[][] want = {{2000 + t, first + 9, t}, {4000 + t, second + 9, 0}};
            for (int i = 0; i < 2; i++) {
                for (int what = 0; what < 3; what++) {
                    Check.due("output " + t + " " + i + " " + what, x.output(t, i, what), want[i][what]);
                }
            }
            begin = second + 9 + 4;
        }
    }
}
