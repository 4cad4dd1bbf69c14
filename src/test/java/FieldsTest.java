/** Promises 8 to 11: head, look, input, output. */
public final class FieldsTest {
    private static final int[] FAR = {-1, -2, 6, 7, 8, 9, 12, 13, 100, 256, Integer.MIN_VALUE, Integer.MAX_VALUE};

    public static void main(String[] args) {
        heads();
        headsWithoutSign();
        noHeadWithoutBlock();
        looks();
        inputs();
        outputs();
        fullTransactions();
        transactionAlone();
        earlierTransactionsAreGone();
        Check.end();
    }

    private static void heads() {
        WireDesk x = new Wire().head().size(0).desk();
        Check.due("head before reading", x.head(0), -1);
        Check.due("read", x.read(true), 0);
        long[] want = {2, 1231006505L, 486604799L, 2083236893L};
        for (int what = 0; what < 4; what++) {
            Check.due("head " + what, x.head(what), want[what]);
        }
        for (int what : FAR) {
            Check.due("head " + what, x.head(what), -1);
        }
        Check.due("head 4", x.head(4), -1);
        Check.due("look in an empty block", x.look(0, 0), -1);
    }

    private static void headsWithoutSign() {
        WireDesk x = new Wire().low(0xFFFFFFFFL, 4).fill(0, 64).low(0x80000000L, 4).low(0xFEDCBA98L, 4)
            .low(0x89ABCDEFL, 4).size(0).desk();
        Check.due("read", x.read(true), 0);
        Check.due("version", x.head(0), 0xFFFFFFFFL);
        Check.due("time", x.head(1), 0x80000000L);
        Check.due("bits", x.head(2), 0xFEDCBA98L);
        Check.due("nonce", x.head(3), 0x89ABCDEFL);
        Check.due("nonce before a count that is not 0", readBlock().head(3), 2083236893L);
    }

    private static void noHeadWithoutBlock() {
        Wire wire = new Wire().low(1, 4).size(0).size(1).output(1, 1, 100).low(0, 4);
        WireDesk x = wire.desk();
        Check.due("read", x.read(false), 1);
        for (int what = -1; what <= 4; what++) {
            Check.due("head of a transaction " + what, x.head(what), -1);
        }
        new Wire().head().size(0).give(x);
        Check.due("read a block", x.read(true), 0);
        Check.due("head of the block", x.head(0), 2);
        wire.give(x);
        Check.due("read a transaction after it", x.read(false), 1);
        Check.due("head after it", x.head(0), -1);
    }

    /** Three transactions; the second one has two inputs and three outputs. */
    private static Wire block() {
        return new Wire().head().size(3)
            .small(0xFFFFFFFFL)
            .low(0x80000001L, 4)
            .size(2).input(10, 0xFFFFFFFEL, 3, 0x80000000L).input(20, 21, 0, 22)
            .size(3).output(30, -1, 2).output(40, Long.MIN_VALUE, 0).output(50, 0x0102030405060708L, 200)
            .low(0xF0000000L, 4)
            .low(3, 4).size(0).size(1).output(60, 61, 1).low(62, 4);
    }

    private static WireDesk readBlock() {
        WireDesk x = block().desk();
        Check.due("read", x.read(true), 3);
        return x;
    }

    private static void looks() {
        WireDesk x = readBlock();
        int second = 44 + 41 + 9 + 2 + 9 + 9 + 200 + 4 + 6;
        long[][] want = {
            {0xFFFFFFFFL, 0, 0, 0, 81, 10},
            {0x80000001L, 2, 3, 0xF0000000L, 91, second},
            {3, 0, 1, 62, 91 + second, 20},
        };
        for (int t = 0; t < 3; t++) {
            for (int what = 0; what < 6; what++) {
                Check.due("look " + t + " " + what, x.look(t, what), want[t][what]);
            }
            for (int what : FAR) {
                Check.due("look " + t + " " + what, x.look(t, what), -1);
            }
        }
        for (int t : new int[] {-3, -2, -1, 3, 4, 11, 12, 13, Integer.MIN_VALUE, Integer.MAX_VALUE}) {
            for (int what = -1; what <= 6; what++) {
                Check.due("look " + t + " " + what, x.look(t, what), -1);
            }
        }
    }

    private static void inputs() {
        WireDesk x = readBlock();
        long[][] want = {{96, 0xFFFFFFFEL, 133, 3, 0x80000000L}, {140, 21, 177, 0, 22}};
        for (int i = 0; i < 2; i++) {
            for (int what = 0; what < 5; what++) {
                Check.due("input 1 " + i + " " + what, x.input(1, i, what), want[i][what]);
            }
            for (int what : FAR) {
                Check.due("input 1 " + i + " " + what, x.input(1, i, what), -1);
            }
            Check.due("input 1 " + i + " 5", x.input(1, i, 5), -1);
        }
        Check.due("first byte of its name", x.byteOf((int) x.input(1, 1, 0)), 20);
        Check.due("first byte of its script", x.byteOf((int) x.input(1, 0, 2)), 11);
        for (int i : FAR) {
            Check.due("input 1 " + i, x.input(1, i, 0), -1);
        }
        Check.due("input 1 2", x.input(1, 2, 0), -1);
        Check.due("input 0 0", x.input(0, 0, 0), -1);
        Check.due("input 2 0", x.input(2, 0, 0), -1);
        for (int t : new int[] {-1, -2, 3, 12, Integer.MIN_VALUE, Integer.MAX_VALUE}) {
            Check.due("input " + t + " 0", x.input(t, 0, 0), -1);
        }
    }

    private static void outputs() {
        WireDesk x = readBlock();
        int begin = 91 + 4 + 1 + 44 + 41 + 1;
        long[][] want = {{-1, begin + 9, 2}, {Long.MIN_VALUE, begin + 20, 0}, {0x0102030405060708L, begin + 29, 200}};
        for (int i = 0; i < 3; i++) {
            for (int what = 0; what < 3; what++) {
                Check.due("output 1 " + i + " " + what, x.output(1, i, what), want[i][what]);
            }
        }
        for (int what : FAR) {
            Check.due("output 1 2 " + what, x.output(1, 2, what), -1);
        }
        Check.due("output 1 2 3", x.output(1, 2, 3), -1);
        Check.due("output 1 2 4", x.output(1, 2, 4), -1);
        Check.due("first byte of its script", x.byteOf((int) x.output(1, 2, 1)), 50);
        Check.due("output 2 0 0", x.output(2, 0, 0), 61);
        for (int i : FAR) {
            Check.due("output 1 " + i, x.output(1, i, 1), -1);
        }
        Check.due("output 1 3", x.output(1, 3, 1), -1);
        Check.due("output 0 0", x.output(0, 0, 1), -1);
        Check.due("output 2 1", x.output(2, 1, 1), -1);
        for (int t : new int[] {-1, -2, 3, 12, Integer.MIN_VALUE, Integer.MAX_VALUE}) {
            Check.due("output " + t + " 0", x.output(t, 0, 1), -1);
        }
    }

    private static void fullTransactions() {
        Wire wire = new Wire().low(1, 4).size(8);
        for (int i = 0; i < 8; i++) {
            wire.input(i, 100 + i, i, 200 + i);
        }
        wire.size(8);
        for (int i = 0; i < 8; i++) {
            wire.output(i, 300 + i, 2 * i);
        }
        WireDesk x = wire.low(9, 4).desk();
        Check.due("read", x.read(false), 1);
        for (int i = 0; i < 8; i++) {
            Check.due("index " + i, x.input(0, i, 1), 100 + i);
            Check.due("script bytes " + i, x.input(0, i, 3), i);
            Check.due("sequence " + i, x.input(0, i, 4), 200 + i);
            Check.due("value " + i, x.output(0, i, 0), 300 + i);
            Check.due("script bytes of output " + i, x.output(0, i, 2), 2 * i);
        }
        Check.due("input 8", x.input(0, 8, 0), -1);
        Check.due("output 8", x.output(0, 8, 1), -1);
    }

    private static void transactionAlone() {
        WireDesk x = new Wire().small(7).desk();
        Check.due("look before reading", x.look(0, 0), -1);
        Check.due("read", x.read(false), 1);
        Check.due("begins", x.look(0, 4), 0);
        Check.due("bytes", x.look(0, 5), 10);
        Check.due("another one", x.look(1, 4), -1);
    }

    private static void earlierTransactionsAreGone() {
        WireDesk x = readBlock();
        new Wire().small(7).give(x);
        Check.due("read a transaction", x.read(false), 1);
        Check.due("transaction 0", x.look(0, 0), 7);
        Check.due("transaction 1", x.look(1, 0), -1);
        Check.due("input of transaction 1", x.input(1, 0, 0), -1);
        Check.due("output of transaction 1", x.output(1, 0, 0), -1);
        Check.due("name of transaction 1", x.name(1, 0), 0);
        new Wire().head().size(0).give(x);
        Check.due("read an empty block", x.read(true), 0);
        Check.due("transaction 0 of none", x.look(0, 0), -1);
        Check.due("name 0 of none", x.name(0, 0), 0);
    }
}
