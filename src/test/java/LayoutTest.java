import java.util.Arrays;

/** 'Terms', the sentences on what a text, a transaction and a block are made of. */
public final class LayoutTest {
    /** Where the parts of transaction() begin. */
    private static final int VERSION = 0;
    private static final int NAME = 5;
    private static final int INDEX = 37;
    private static final int INPUT_SCRIPT = 42;
    private static final int SEQUENCE = 45;
    private static final int SECOND_INPUT = 49;
    private static final int VALUE = 91;
    private static final int OUTPUT_SCRIPT = 100;
    private static final int SECOND_OUTPUT = 105;
    private static final int TIME = 115;
    private static final int END = 119;

    /** No answer of the fields but those of the bytes and names depends on it. */
    private static final int NO_FIELD = -1;
    private static final int FIRST_INPUT_FIELD = 6;
    private static final int FIRST_OUTPUT_FIELD = 16;

    public static void main(String[] args) {
        textsAreBytes();
        version();
        inputs();
        inputsName();
        inputsIndex();
        inputsScript();
        inputsSequence();
        outputs();
        outputsValue();
        outputsScript();
        time();
        headOf80Bytes();
        headsVersion();
        parentsName();
        root();
        headsOtherFields();
        transactions();
        Check.end();
    }

    private static void textsAreBytes() {
        Check.sentence("Terms", "A TEXT are bytes");
        Wire wire = new Wire().low(1, 4).size(0).size(2);
        for (int half = 0; half < 256; half += 128) {
            wire.low(half, 8).size(128);
            for (int b = half; b < half + 128; b++) {
                wire.low(b, 1);
            }
        }
        WireDesk x = read(wire.low(2, 4), false, 1);
        for (int half = 0; half < 2; half++) {
            int script = (int) x.output(0, half, 1);
            for (int i = 0; i < 128; i++) {
                Check.due("byte " + (128 * half + i), x.byteOf(script + i), 128 * half + i);
            }
        }
    }

    private static WireDesk read(Wire wire, boolean block, int answer) {
        WireDesk x = wire.desk();
        Check.due("read", x.read(block), answer);
        return x;
    }

    /** Two inputs and two outputs, in each of these rows one with a script and one of another length. */
    private static Wire transaction() {
        return new Wire().low(0x04030201, 4).size(2).input(60, 0x14131211, 3, 0x24232221).input(70, 5, 0, 6)
            .size(2).output(80, 0x3837363534333231L, 5).output(90, 7, 1).low(0x44434241, 4);
    }

    /** What can be asked about the parts of one transaction with two inputs and two outputs. */
    private static long[] fields(WireDesk x) {
        long[] all = new long[22];
        int at = 0;
        for (int what = 0; what < 6; what++) {
            all[at++] = x.look(0, what);
        }
        for (int i = 0; i < 2; i++) {
            for (int what = 0; what < 5; what++) {
                all[at++] = x.input(0, i, what);
            }
        }
        for (int i = 0; i < 2; i++) {
            for (int what = 0; what < 3; what++) {
                all[at++] = x.output(0, i, what);
            }
        }
        return all;
    }

    private static final long[] FIELDS = {0x04030201, 2, 2, 0x44434241, 0, END,
        NAME, 0x14131211, INPUT_SCRIPT, 3, 0x24232221, SECOND_INPUT, 5, SECOND_INPUT + 37, 0, 6,
        0x3837363534333231L, OUTPUT_SCRIPT, 5, 7, SECOND_OUTPUT + 9, 1};

    /** Each byte of a part is changed alone: one field shows it, at the byte's weight, and no other. */
    private static void partIs(int from, int count, int field) {
        byte[] text = transaction().bytes();
        for (int i = 0; i < count; i++) {
            for (int change : new int[] {1, 128, 255}) {
                byte[] changed = text.clone();
                changed[from + i] ^= (byte) change;
                long[] want = FIELDS.clone();
                if (field != NO_FIELD) {
                    want[field] ^= (long) change << (8 * i);
                }
                WireDesk x = read(Wire.of(changed), false, 1);
                String told = "byte " + (from + i) + " changed by " + change;
                fieldsAre(told, x, want);
                Check.due("byteOf, " + told, x.byteOf(from + i), changed[from + i] & 255);
                Check.due("name, " + told, x.name(0, 0), Wire.eight(Wire.nameOf(changed), 0));
            }
        }
    }

    private static void fieldsAre(String told, WireDesk x, long[] want) {
        long[] got = fields(x);
        for (int f = 0; f < want.length; f++) {
            Check.due("field " + f + ", " + told, got[f], want[f]);
        }
    }

    private static void version() {
        Check.sentence("Terms", "A TRANSACTION: VERSION (4 bytes low first)");
        fieldsAre("nothing changed", read(transaction(), false, 1), FIELDS);
        partIs(VERSION, 4, 0);
    }

    /** Inputs with scripts of other lengths than their neighbours', each where the one before it ends. */
    private static void inputs() {
        Check.sentence("Terms", "how many INPUTS there are (a size), and these");
        for (int count = 0; count <= 8; count++) {
            Wire wire = new Wire().low(1, 4).size(count);
            int[] begins = new int[count];
            for (int i = 0; i < count; i++) {
                begins[i] = wire.length();
                wire.input(i, 100 + i, 3 * i % 5, 200 + i);
            }
            WireDesk x = read(wire.size(0).low(9, 4), false, 1);
            Check.due("inputs", x.look(0, 1), count);
            for (int i = 0; i < count; i++) {
                Check.due("name of " + i + " of " + count, x.input(0, i, 0), begins[i]);
                Check.due("index of " + i + " of " + count, x.input(0, i, 1), 100 + i);
                Check.due("sequence of " + i + " of " + count, x.input(0, i, 4), 200 + i);
            }
            Check.due("one more than " + count, x.input(0, count, 0), -1);
            Check.due("time behind " + count, x.look(0, 3), 9);
        }
    }

    private static void inputsName() {
        Check.sentence("Terms", "a NAME (32 bytes)");
        partIs(NAME, 32, NO_FIELD);
        partIs(SECOND_INPUT, 32, NO_FIELD);
    }

    private static void inputsIndex() {
        Check.sentence("Terms", "an INDEX (4 low first)");
        partIs(INDEX, 4, FIRST_INPUT_FIELD + 1);
        partIs(SECOND_INPUT + 32, 4, FIRST_INPUT_FIELD + 6);
    }

    private static void inputsScript() {
        Check.sentence("Terms", "how many bytes a SCRIPT has (a size), these");
        partIs(INPUT_SCRIPT, 3, NO_FIELD);
        for (int bytes = 0; bytes <= 200; bytes++) {
            WireDesk x = read(new Wire().low(1, 4).size(1).input(2, 3, bytes, 4).size(1).output(5, 6, 7).low(8, 4), false, 1);
            Check.due("script", x.input(0, 0, 2), INPUT_SCRIPT);
            Check.due("its bytes", x.input(0, 0, 3), bytes);
            Check.due("sequence behind " + bytes, x.input(0, 0, 4), 4);
            Check.due("value behind " + bytes, x.output(0, 0, 0), 6);
            Check.due("output's script behind " + bytes, x.output(0, 0, 1), INPUT_SCRIPT + bytes + 4 + 1 + 9);
        }
    }

    private static void inputsSequence() {
        Check.sentence("Terms", "a SEQUENCE (4 low first)");
        partIs(SEQUENCE, 4, FIRST_INPUT_FIELD + 4);
        partIs(SECOND_INPUT + 37, 4, FIRST_INPUT_FIELD + 9);
    }

    private static void outputs() {
        Check.sentence("Terms", "how many OUTPUTS there are (a size), and these");
        for (int count = 0; count <= 8; count++) {
            Wire wire = new Wire().low(1, 4).size(0).size(count);
            int[] begins = new int[count];
            for (int i = 0; i < count; i++) {
                begins[i] = wire.length();
                wire.output(i, 100 + i, 3 * i % 5);
            }
            WireDesk x = read(wire.low(9, 4), false, 1);
            Check.due("outputs", x.look(0, 2), count);
            for (int i = 0; i < count; i++) {
                Check.due("value of " + i + " of " + count, x.output(0, i, 0), 100 + i);
                Check.due("script of " + i + " of " + count, x.output(0, i, 1), begins[i] + 9);
            }
            Check.due("one more than " + count, x.output(0, count, 0), -1);
            Check.due("time behind " + count, x.look(0, 3), 9);
        }
    }

    private static void outputsValue() {
        Check.sentence("Terms", "a VALUE (8 low first)");
        partIs(VALUE, 8, FIRST_OUTPUT_FIELD);
        partIs(SECOND_OUTPUT, 8, FIRST_OUTPUT_FIELD + 3);
    }

    private static void outputsScript() {
        Check.sentence("Terms", "how many bytes a script has (a size), these");
        partIs(OUTPUT_SCRIPT, 5, NO_FIELD);
        partIs(SECOND_OUTPUT + 9, 1, NO_FIELD);
        for (int bytes = 0; bytes <= 200; bytes++) {
            WireDesk x = read(new Wire().low(1, 4).size(0).size(2).output(5, 6, bytes).output(7, 8, 9).low(10, 4), false, 1);
            Check.due("script", x.output(0, 0, 1), 15);
            Check.due("its bytes", x.output(0, 0, 2), bytes);
            Check.due("value behind " + bytes, x.output(0, 1, 0), 8);
            Check.due("script behind " + bytes, x.output(0, 1, 1), 15 + bytes + 9);
            Check.due("time behind " + bytes, x.look(0, 3), 10);
        }
    }

    private static void time() {
        Check.sentence("Terms", "a TIME (4 low first)");
        partIs(TIME, 4, 3);
    }

    private static final long[] HEADS = {2, 1231006505L, 486604799L, 2083236893L};

    /** Each byte of a part of the head is changed alone; field is what head takes for it. */
    private static void headPartIs(int from, int count, int field) {
        byte[] text = new Wire().head().size(1).small(5).bytes();
        byte[] root = Arrays.copyOfRange(text, 36, 68);
        for (int i = from; i < from + count; i++) {
            for (int change : new int[] {1, 128, 255}) {
                byte[] changed = text.clone();
                changed[i] ^= (byte) change;
                WireDesk x = read(Wire.of(changed), true, 1);
                for (int what = 0; what < 4; what++) {
                    long want = HEADS[what] ^ (what == field ? (long) change << (8 * (i - from)) : 0);
                    Check.due("head " + what + ", byte " + i + " changed by " + change, x.head(what), want);
                }
                byte[] rootNow = field == ROOT_FIELD ? Arrays.copyOfRange(changed, 36, 68) : root;
                byte[] nameNow = Wire.nameOf(Arrays.copyOf(changed, 80));
                for (int k = 0; k < 4; k++) {
                    Check.due("root in the head, byte " + i + " changed", x.name(-2, k), Wire.eight(rootNow, 8 * k));
                    Check.due("block's name, byte " + i + " changed", x.name(-1, k), Wire.eight(nameNow, 8 * k));
                }
                Check.due("transaction, byte " + i + " changed", x.look(0, 0), 5);
            }
        }
    }

    private static final int ROOT_FIELD = 4;

    private static void headOf80Bytes() {
        Check.sentence("Terms", "A BLOCK: its HEAD of 80 bytes");
        for (int length = 0; length <= 80; length++) {
            WireDesk x = Wire.of(Arrays.copyOf(new Wire().head().bytes(), length)).desk();
            Check.due("read of a head of " + length, x.read(true), -2);
            Check.due("its place", x.place(), length);
        }
        WireDesk x = read(new Wire().head().size(1).small(5), true, 1);
        Check.due("the size behind it", x.byteOf(80), 1);
        Check.due("where the first transaction begins", x.look(0, 4), 81);
    }

    private static void headsVersion() {
        Check.sentence("Terms", "version (4 low first)");
        headPartIs(0, 4, 0);
    }

    private static void parentsName() {
        Check.sentence("Terms", "the PARENT's name (32)");
        headPartIs(4, 32, NO_FIELD);
    }

    private static void root() {
        Check.sentence("Terms", "a ROOT (32)");
        headPartIs(36, 32, ROOT_FIELD);
    }

    private static void headsOtherFields() {
        Check.sentence("Terms", "a time, BITS, a NONCE (4 low first each)");
        headPartIs(68, 4, 1);
        headPartIs(72, 4, 2);
        headPartIs(76, 4, 3);
    }

    private static void transactions() {
        Check.sentence("Terms", "how many transactions there are (a size), and these");
        for (int count = 0; count <= 12; count++) {
            Wire wire = new Wire().head().size(count);
            int[] begins = new int[count];
            for (int t = 0; t < count; t++) {
                begins[t] = wire.length();
                wire.low(100 + t, 4).size(t % 2).add(t % 2 == 0 ? new Wire() : new Wire().input(t, t, t, t))
                    .size(t % 3 == 0 ? 1 : 0).add(t % 3 == 0 ? new Wire().output(t, t, t) : new Wire()).low(200 + t, 4);
            }
            WireDesk x = read(wire, true, count);
            for (int t = 0; t < count; t++) {
                Check.due("where " + t + " of " + count + " begins", x.look(t, 4), begins[t]);
                Check.due("version of " + t + " of " + count, x.look(t, 0), 100 + t);
                Check.due("time of " + t + " of " + count, x.look(t, 3), 200 + t);
            }
            Check.due("one more than " + count, x.look(count, 4), -1);
        }
    }
}
