/** Promises 8 to 11, sentence by sentence. */
public final class EdgeFieldsTest {
    private static final int[] FAR = {-2, -1, 100, 256, 1 << 16, Integer.MIN_VALUE, Integer.MIN_VALUE + 1, Integer.MAX_VALUE};
    private static final long[] FOURS = {0, 1, 127, 128, 255, 256, 0x7FFFFFFFL, 0x80000000L, 0xFFFFFFFEL, 0xFFFFFFFFL};

    public static void main(String[] args) {
        headsWithoutASign();
        noHead();
        noOtherHead();
        looksWithoutASign();
        howMany();
        beginsAndBytes();
        noTransaction();
        noOtherLook();
        inputsWithoutASign();
        inputsPlaces();
        noInput();
        noOtherInput();
        all64Bits();
        outputsPlaces();
        noOutput();
        noOtherOutput();
        Check.end();
    }

    private static WireDesk read(Wire wire, boolean block, int answer) {
        WireDesk x = wire.desk();
        Check.due("read", x.read(block), answer);
        return x;
    }

    private static void headsWithoutASign() {
        Check.sentence("Promise 8", "0 its version, 1 its time, 2 bits, 3 nonce (as numbers without a sign)");
        for (int f = 0; f < FOURS.length; f++) {
            long[] four = {FOURS[f], FOURS[(f + 1) % 10], FOURS[(f + 4) % 10], FOURS[(f + 7) % 10]};
            for (int fill = 0; fill <= 255; fill += 255) {
                WireDesk x = read(new Wire().low(four[0], 4).fill(fill, 64).low(four[1], 4).low(four[2], 4).low(four[3], 4)
                    .size(1).small(0xFFFFFFFFL), true, 1);
                for (int what = 0; what < 4; what++) {
                    Check.due("head " + what, x.head(what), four[what]);
                }
            }
        }
    }

    private static void noHead() {
        Check.sentence("Promise 8", "-1 if there is none");
        WireDesk x = new Wire().head().size(0).desk();
        noHeadNow("before reading", x);
        Check.due("read", x.read(true), 0);
        Check.due("head of a block without transactions", x.head(2), 486604799L);
        Wire.whole(200).give(x);
        Check.due("head while a text is written", x.head(2), 486604799L);
        Check.due("read of a transaction", x.read(false), 1);
        noHeadNow("of a transaction", x);
        new Wire().head().size(0).fill(0, 1).give(x);
        Check.due("read with a fault", x.read(true), -5);
        noHeadNow("with a fault", x);
    }

    private static void noHeadNow(String when, WireDesk x) {
        for (int what = -1; what <= 4; what++) {
            Check.due("head " + what + " " + when, x.head(what), -1);
        }
    }

    private static void noOtherHead() {
        Check.sentence("Promise 8", "or for another what");
        WireDesk x = read(new Wire().head().size(1).small(1), true, 1);
        Check.due("head 4", x.head(4), -1);
        Check.due("head 5", x.head(5), -1);
        for (int what : FAR) {
            Check.due("head " + what, x.head(what), -1);
        }
    }

    private static void looksWithoutASign() {
        Check.sentence("Promise 9", "0 version | 3 time (0 and 3 as numbers without a sign)");
        for (int f = 0; f < FOURS.length; f++) {
            long version = FOURS[f];
            long time = FOURS[(f + 3) % 10];
            WireDesk x = read(new Wire().low(version, 4).size(0).size(1).output(1, -1, 3).low(time, 4), false, 1);
            Check.due("version", x.look(0, 0), version);
            Check.due("time", x.look(0, 3), time);
            WireDesk y = read(new Wire().head().size(2).small(9).low(version, 4).size(0).size(0).low(time, 4), true, 2);
            Check.due("version of the second", y.look(1, 0), version);
            Check.due("time of the second", y.look(1, 3), time);
        }
    }

    private static Wire transaction(int inputs, int outputs, int script) {
        Wire wire = new Wire().low(3, 4).size(inputs);
        for (int i = 0; i < inputs; i++) {
            wire.input(10 * i, 20 + i, script, 30 + i);
        }
        wire.size(outputs);
        for (int i = 0; i < outputs; i++) {
            wire.output(11 * i, 40 + i, script);
        }
        return wire.low(4, 4);
    }

    private static void howMany() {
        Check.sentence("Promise 9", "1 how many inputs, 2 how many outputs");
        for (int inputs = 0; inputs <= 8; inputs++) {
            for (int outputs = 0; outputs <= 8; outputs++) {
                WireDesk x = read(transaction(inputs, outputs, 1), false, 1);
                Check.due("inputs of " + inputs, x.look(0, 1), inputs);
                Check.due("outputs of " + outputs, x.look(0, 2), outputs);
            }
        }
    }

    private static void beginsAndBytes() {
        Check.sentence("Promise 9", "4 where it begins, 5 how many bytes it has");
        Wire wire = new Wire().head().size(12);
        int[] begins = new int[13];
        for (int t = 0; t < 12; t++) {
            begins[t] = wire.length();
            wire.add(transaction(t % 3, t % 4, t));
        }
        begins[12] = wire.length();
        WireDesk x = read(wire, true, 12);
        for (int t = 0; t < 12; t++) {
            Check.due("where " + t + " begins", x.look(t, 4), begins[t]);
            Check.due("bytes of " + t, x.look(t, 5), begins[t + 1] - begins[t]);
        }
        for (int length : new int[] {10, 19, 1999, 2000}) {
            WireDesk alone = read(Wire.whole(length), false, 1);
            Check.due("where it begins alone", alone.look(0, 4), 0);
            Check.due("bytes alone", alone.look(0, 5), length);
        }
    }

    private static void noLookNow(String when, WireDesk x, int t) {
        for (int what = -1; what <= 6; what++) {
            Check.due("look " + t + " " + what + " " + when, x.look(t, what), -1);
        }
    }

    private static void noTransaction() {
        Check.sentence("Promise 9", "-1 if there is none");
        noLookNow("in a new object", new WireDesk(), 0);
        for (int count = 0; count <= 12; count++) {
            Wire wire = new Wire().head().size(count);
            for (int t = 0; t < count; t++) {
                wire.small(t);
            }
            WireDesk x = read(wire, true, count);
            noLookNow("of " + count, x, -1);
            noLookNow("of " + count, x, count);
            noLookNow("of " + count, x, 12);
            Check.due("the last of " + count, x.look(count - 1, 0), count - 1);
        }
        WireDesk x = read(new Wire().head().size(3).small(1).small(2).small(3), true, 3);
        for (int t : FAR) {
            noLookNow("of 3", x, t);
        }
        new Wire().small(5).give(x);
        Check.due("read of one", x.read(false), 1);
        noLookNow("of one", x, 1);
        Check.due("read of nothing", x.read(false), -2);
        noLookNow("with a fault", x, 0);
    }

    private static void noOtherLook() {
        Check.sentence("Promise 9", "or for another what");
        WireDesk x = read(new Wire().head().size(2).add(transaction(2, 2, 2)).small(2), true, 2);
        for (int t = 0; t < 2; t++) {
            Check.due("look " + t + " 6", x.look(t, 6), -1);
            Check.due("look " + t + " 7", x.look(t, 7), -1);
            for (int what : FAR) {
                Check.due("look " + t + " " + what, x.look(t, what), -1);
            }
        }
    }

    private static void inputsWithoutASign() {
        Check.sentence("Promise 10", "1 index | 4 sequence (1 and 4 without a sign)");
        for (int f = 0; f < FOURS.length; f++) {
            long index = FOURS[f];
            long sequence = FOURS[(f + 3) % 10];
            for (int script : new int[] {0, 1, 200}) {
                WireDesk x = read(new Wire().low(1, 4).size(2).input(1, 1, 5, 1).input(255, index, script, sequence)
                    .size(0).low(0, 4), false, 1);
                Check.due("index", x.input(0, 1, 1), index);
                Check.due("sequence", x.input(0, 1, 4), sequence);
            }
        }
    }

    private static void inputsPlaces() {
        Check.sentence("Promise 10", "0 where its name begins | 2 where its script begins, 3 how many bytes that has");
        for (int script : new int[] {0, 1, 199, 200}) {
            WireDesk x = read(new Wire().head().size(2).small(1).low(1, 4).size(3).input(1, 1, 2, 1).input(2, 2, script, 2)
                .input(3, 3, 0, 3).size(0).low(0, 4), true, 2);
            int begin = 91 + 5 + 43;
            long[][] want = {{96, 133, 2}, {begin, begin + 37, script}, {begin + 41 + script, begin + 78 + script, 0}};
            for (int i = 0; i < 3; i++) {
                Check.due("name of " + i, x.input(1, i, 0), want[i][0]);
                Check.due("script of " + i, x.input(1, i, 2), want[i][1]);
                Check.due("bytes of " + i, x.input(1, i, 3), want[i][2]);
            }
        }
    }

    private static void noInputNow(String when, WireDesk x, int t, int i) {
        for (int what = -1; what <= 5; what++) {
            Check.due("input " + t + " " + i + " " + what + " " + when, x.input(t, i, what), -1);
        }
    }

    /** Of each transaction with fewer inputs than another one, so that what another one has does not show. */
    private static void noInput() {
        Check.sentence("Promise 10", "-1 if there is none");
        noInputNow("in a new object", new WireDesk(), 0, 0);
        for (int n = 0; n <= 8; n++) {
            WireDesk x = read(new Wire().head().size(3).add(transaction(8, 0, 0)).add(transaction(n, 8, 0))
                .add(transaction(8, 0, 0)), true, 3);
            noInputNow("of " + n, x, 1, n);
            noInputNow("of " + n, x, 1, -1);
            noInputNow("of " + n, x, 1, 8);
            Check.due("the last of " + n, x.input(1, n - 1, 1), n == 0 ? -1 : 20 + n - 1);
        }
        WireDesk x = read(new Wire().head().size(2).add(transaction(8, 1, 0)).add(transaction(1, 8, 0)), true, 2);
        for (int far : FAR) {
            noInputNow("far away", x, 0, far);
            noInputNow("far away", x, far, 0);
        }
        noInputNow("behind the last transaction", x, 2, 0);
        noInputNow("of transaction 12", x, 12, 0);
        Wire.whole(19).give(x);
        Check.due("read of one without inputs", x.read(false), 1);
        noInputNow("after one without inputs", x, 0, 0);
        transaction(1, 0, 0).fill(0, 1).give(x);
        Check.due("read with a fault", x.read(false), -5);
        noInputNow("with a fault", x, 0, 0);
    }

    private static void noOtherInput() {
        Check.sentence("Promise 10", "or for another what");
        WireDesk x = read(transaction(8, 8, 3), false, 1);
        for (int i = 0; i < 8; i++) {
            Check.due("input 0 " + i + " 5", x.input(0, i, 5), -1);
            Check.due("input 0 " + i + " 6", x.input(0, i, 6), -1);
            for (int what : FAR) {
                Check.due("input 0 " + i + " " + what, x.input(0, i, what), -1);
            }
        }
    }

    private static void all64Bits() {
        Check.sentence("Promise 11", "0 its value (all 64 bits as a long)");
        for (long value : new long[] {0, 1, -1, -2, Long.MIN_VALUE, Long.MAX_VALUE, 1L << 31, 1L << 32, 0xFFFFFFFFL,
            0x0102030405060708L, 0xF1E2D3C4B5A69788L}) {
            WireDesk x = read(new Wire().low(1, 4).size(0).size(2).output(255, 7, 1).output(255, value, 0).low(0, 4), false, 1);
            Check.due("value", x.output(0, 1, 0), value);
        }
    }

    private static void outputsPlaces() {
        Check.sentence("Promise 11", "1 where its script begins, 2 how many bytes that has");
        for (int script : new int[] {0, 1, 199, 200}) {
            WireDesk x = read(new Wire().head().size(2).small(1).low(1, 4).size(1).input(1, 1, 0, 1).size(3).output(1, 1, 2)
                .output(2, 2, script).output(3, 3, 0).low(0, 4), true, 2);
            int begin = 91 + 5 + 41 + 1;
            Check.due("script of the first", x.output(1, 0, 1), begin + 9);
            Check.due("bytes of the first", x.output(1, 0, 2), 2);
            Check.due("script of the second", x.output(1, 1, 1), begin + 20);
            Check.due("bytes of the second", x.output(1, 1, 2), script);
            Check.due("script of the third", x.output(1, 2, 1), begin + 29 + script);
            Check.due("bytes of the third", x.output(1, 2, 2), 0);
        }
    }

    private static void noOutputNow(String when, WireDesk x, int t, int i) {
        for (int what = -1; what <= 3; what++) {
            Check.due("output " + t + " " + i + " " + what + " " + when, x.output(t, i, what), -1);
        }
    }

    private static void noOutput() {
        Check.sentence("Promise 11", "-1 if there is none");
        noOutputNow("in a new object", new WireDesk(), 0, 0);
        for (int n = 0; n <= 8; n++) {
            WireDesk x = read(new Wire().head().size(3).add(transaction(0, 8, 0)).add(transaction(8, n, 0))
                .add(transaction(0, 8, 0)), true, 3);
            noOutputNow("of " + n, x, 1, n);
            noOutputNow("of " + n, x, 1, -1);
            noOutputNow("of " + n, x, 1, 8);
            Check.due("the last of " + n, x.output(1, n - 1, 0), n == 0 ? -1 : 40 + n - 1);
        }
        WireDesk x = read(new Wire().head().size(2).add(transaction(1, 8, 0)).add(transaction(8, 1, 0)), true, 2);
        for (int far : FAR) {
            noOutputNow("far away", x, 0, far);
            noOutputNow("far away", x, far, 0);
        }
        noOutputNow("behind the last transaction", x, 2, 0);
        noOutputNow("of transaction 12", x, 12, 0);
        new Wire().small(1).give(x);
        Check.due("read of one without outputs", x.read(false), 1);
        noOutputNow("after one without outputs", x, 0, 0);
        Wire.whole(19).fill(0, 1).give(x);
        Check.due("read with a fault", x.read(false), -5);
        noOutputNow("with a fault", x, 0, 0);
    }

    private static void noOtherOutput() {
        Check.sentence("Promise 11", "or for another what");
        WireDesk x = read(transaction(8, 8, 3), false, 1);
        for (int i = 0; i < 8; i++) {
            Check.due("output 0 " + i + " 3", x.output(0, i, 3), -1);
            Check.due("output 0 " + i + " 4", x.output(0, i, 4), -1);
            for (int what : FAR) {
                Check.due("output 0 " + i + " " + what, x.output(0, i, what), -1);
            }
        }
    }
}
