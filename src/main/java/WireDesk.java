/**
 * Transactions and blocks as they go over a wire: read, with the first fault told, named by
 * digests of digests, and blocks' rows of names put together in pairs.
 */
public final class WireDesk {
    private static final int TEXT_LIMIT = 2000;
    private static final int INPUT_LIMIT = 8;
    private static final int OUTPUT_LIMIT = 8;
    private static final int SCRIPT_LIMIT = 200;
    private static final int TRANSACTION_LIMIT = 12;

    private static final int NAME_BYTES = 32;
    private static final int HEAD_BYTES = 80;
    private static final int HEAD_ROOT = 36;
    private static final int HEAD_TIME = 68;
    private static final int HEAD_BITS = 72;
    private static final int HEAD_NONCE = 76;

    private static final int NO_FAULT = 0;
    private static final int FAULT_ENDS = 1;
    private static final int FAULT_LONG = 2;
    private static final int FAULT_MUCH = 3;
    private static final int FAULT_GOES_ON = 4;

    private static final int NAME_OF_BLOCK = -1;
    private static final int ROOT_IN_HEAD = -2;
    private static final int ROOT_OF_NAMES = -3;

    /** The text that the next reading takes. */
    private final Text written = new Text();
    private final Reader reader = new Reader();
    /** What was read without a fault; it has no bytes if there is no such thing. */
    private final Text kept = reader.text;
    private final Namer namer = new Namer();
    private final Transaction[] transactions = new Transaction[TRANSACTION_LIMIT];
    private int transactionCount = 0;
    private boolean blockKept = false;
    private int faultPlace = -1;
    private final byte[] transactionNames = new byte[TRANSACTION_LIMIT * NAME_BYTES];
    private final byte[] blockName = new byte[NAME_BYTES];
    private final NameRow row = new NameRow();

    public WireDesk() {
        for (int t = 0; t < TRANSACTION_LIMIT; t++) {
            transactions[t] = new Transaction();
        }
    }

    public boolean put(long v, int n) {
        if (n < 1 || n > 8 || !written.hasRoom(n)) {
            return false;
        }
        written.addHighFirst(v, n);
        return true;
    }

    public boolean low(long v, int n) {
        if (n < 1 || n > 8 || !written.hasRoom(n)) {
            return false;
        }
        written.addLowFirst(v, n);
        return true;
    }

    public boolean compact(long v) {
        int width = widthOfSize(v);
        if (!written.hasRoom(1 + width)) {
            return false;
        }
        if (width > 0) {
            written.addLowFirst(markOfWidth(width), 1);
            written.addLowFirst(v, width);
        } else {
            written.addLowFirst(v, 1);
        }
        return true;
    }

    public int read(boolean block) {
        kept.copy(written);
        written.clear();
        reader.begin();
        int count = 1;
        if (block) {
            count = reader.takeBlock(transactions);
        } else {
            reader.takeTransaction(transactions[0]);
        }
        reader.finish();
        faultPlace = reader.faultPlace;
        if (reader.fault != NO_FAULT) {
            forget();
            return -1 - reader.fault;
        }
        transactionCount = count;
        blockKept = block;
        nameTransactions();
        if (block) {
            namer.writeName(kept.bytes, 0, HEAD_BYTES, blockName, 0);
            row.putTogether(transactionNames, transactionCount, namer);
        }
        return count;
    }

    public int place() {
        return faultPlace;
    }

    public int byteOf(int i) {
        return kept.at(i);
    }

    public long head(int what) {
        if (!blockKept) {
            return -1;
        }
        switch (what) {
            case 0:
                return kept.lowFirst(0, 4);
            case 1:
                return kept.lowFirst(HEAD_TIME, 4);
            case 2:
                return kept.lowFirst(HEAD_BITS, 4);
            case 3:
                return kept.lowFirst(HEAD_NONCE, 4);
            default:
                return -1;
        }
    }

    public long look(int t, int what) {
        if (!hasTransaction(t)) {
            return -1;
        }
        Transaction transaction = transactions[t];
        switch (what) {
            case 0:
                return kept.lowFirst(transaction.begin, 4);
            case 1:
                return transaction.inputCount;
            case 2:
                return transaction.outputCount;
            case 3:
                return kept.lowFirst(transaction.end - 4, 4);
            case 4:
                return transaction.begin;
            case 5:
                return transaction.end - transaction.begin;
            default:
                return -1;
        }
    }

    public long input(int t, int i, int what) {
        if (!hasTransaction(t) || i < 0 || i >= transactions[t].inputCount) {
            return -1;
        }
        Transaction transaction = transactions[t];
        int begin = transaction.inputBegin[i];
        int script = transaction.inputScript[i];
        int scriptBytes = transaction.inputScriptBytes[i];
        switch (what) {
            case 0:
                return begin;
            case 1:
                return kept.lowFirst(begin + NAME_BYTES, 4);
            case 2:
                return script;
            case 3:
                return scriptBytes;
            case 4:
                return kept.lowFirst(script + scriptBytes, 4);
            default:
                return -1;
        }
    }

    public long output(int t, int i, int what) {
        if (!hasTransaction(t) || i < 0 || i >= transactions[t].outputCount) {
            return -1;
        }
        Transaction transaction = transactions[t];
        switch (what) {
            case 0:
                return kept.lowFirst(transaction.outputBegin[i], 8);
            case 1:
                return transaction.outputScript[i];
            case 2:
                return transaction.outputScriptBytes[i];
            default:
                return -1;
        }
    }

    public long name(int t, int k) {
        if (k < 0 || k > 3) {
            return 0;
        }
        if (hasTransaction(t)) {
            return eightBytes(transactionNames, t * NAME_BYTES + 8 * k);
        }
        if (!blockKept) {
            return 0;
        }
        switch (t) {
            case NAME_OF_BLOCK:
                return eightBytes(blockName, 8 * k);
            case ROOT_IN_HEAD:
                return eightBytes(kept.bytes, HEAD_ROOT + 8 * k);
            case ROOT_OF_NAMES:
                return eightBytes(row.names, 8 * k);
            default:
                return 0;
        }
    }

    public boolean isDoubtful() {
        return blockKept && row.doubtful;
    }

    private void forget() {
        kept.clear();
        transactionCount = 0;
        blockKept = false;
    }

    private boolean hasTransaction(int t) {
        return t >= 0 && t < transactionCount && t < TRANSACTION_LIMIT;
    }

    /** Names are made once for each reading, as they may be asked for hundreds of times after it. */
    private void nameTransactions() {
        for (int t = 0; t < transactionCount && t < TRANSACTION_LIMIT; t++) {
            int begin = transactions[t].begin;
            int length = transactions[t].end - begin;
            namer.writeName(kept.bytes, begin, length, transactionNames, t * NAME_BYTES);
        }
    }

    private static long eightBytes(byte[] bytes, int from) {
        if (from < 0 || from > bytes.length - 8) {
            return 0;
        }
        long value = 0;
        for (int i = 0; i < 8; i++) {
            value = (value << 8) | (bytes[from + i] & 255);
        }
        return value;
    }

    /** How many bytes the shortest size of v, a number without a sign, has behind its first one. */
    private static int widthOfSize(long v) {
        if ((v >>> 32) != 0) {
            return 8;
        }
        if ((v >>> 16) != 0) {
            return 4;
        }
        return v < 253 ? 0 : 2;
    }

    private static int markOfWidth(int width) {
        if (width == 8) {
            return 255;
        }
        return width == 4 ? 254 : 253;
    }

    private static int widthOfMark(int mark) {
        switch (mark) {
            case 253:
                return 2;
            case 254:
                return 4;
            case 255:
                return 8;
            default:
                return 0;
        }
    }

    /** A row of bytes with a limit. */
    private static final class Text {
        final byte[] bytes = new byte[TEXT_LIMIT];
        int length = 0;

        void clear() {
            length = 0;
        }

        void copy(Text other) {
            for (int i = 0; i < other.length && i < TEXT_LIMIT; i++) {
                bytes[i] = other.bytes[i];
            }
            length = other.length;
        }

        boolean hasRoom(int n) {
            return n >= 0 && n <= TEXT_LIMIT - length;
        }

        void addHighFirst(long v, int n) {
            for (int i = n - 1; i >= 0; i--) {
                add((byte) (v >>> (8 * i)));
            }
        }

        void addLowFirst(long v, int n) {
            for (int i = 0; i < n; i++) {
                add((byte) (v >>> (8 * i)));
            }
        }

        private void add(byte b) {
            if (length >= 0 && length < TEXT_LIMIT) {
                bytes[length] = b;
                length++;
            }
        }

        int at(int i) {
            return i >= 0 && i < length ? bytes[i] & 255 : -1;
        }

        long lowFirst(int from, int n) {
            if (from < 0 || n < 0 || from > length - n) {
                return -1;
            }
            long value = 0;
            for (int i = n - 1; i >= 0; i--) {
                value = (value << 8) | (bytes[from + i] & 255);
            }
            return value;
        }
    }

    /** Where the parts of a transaction lie in the text that it was read from. */
    private static final class Transaction {
        int begin = 0;
        int end = 0;
        int inputCount = 0;
        int outputCount = 0;
        final int[] inputBegin = new int[INPUT_LIMIT];
        final int[] inputScript = new int[INPUT_LIMIT];
        final int[] inputScriptBytes = new int[INPUT_LIMIT];
        final int[] outputBegin = new int[OUTPUT_LIMIT];
        final int[] outputScript = new int[OUTPUT_LIMIT];
        final int[] outputScriptBytes = new int[OUTPUT_LIMIT];
    }

    /** Goes over a text from the left; after the first fault it takes nothing more. */
    private static final class Reader {
        final Text text = new Text();
        private int next = 0;
        int fault = NO_FAULT;
        int faultPlace = -1;

        void begin() {
            next = 0;
            fault = NO_FAULT;
            faultPlace = -1;
        }

        void finish() {
            if (next < text.length) {
                fail(FAULT_GOES_ON, next);
            }
        }

        int takeBlock(Transaction[] into) {
            skip(HEAD_BYTES);
            int count = takeSize(TRANSACTION_LIMIT);
            for (int t = 0; t < count && t < into.length && fault == NO_FAULT; t++) {
                takeTransaction(into[t]);
            }
            return count;
        }

        void takeTransaction(Transaction into) {
            into.begin = next;
            skip(4);
            into.inputCount = takeSize(INPUT_LIMIT);
            for (int i = 0; i < into.inputCount && i < INPUT_LIMIT; i++) {
                takeInput(into, i);
            }
            into.outputCount = takeSize(OUTPUT_LIMIT);
            for (int i = 0; i < into.outputCount && i < OUTPUT_LIMIT; i++) {
                takeOutput(into, i);
            }
            skip(4);
            into.end = next;
        }

        private void takeInput(Transaction into, int i) {
            into.inputBegin[i] = next;
            skip(NAME_BYTES + 4);
            int scriptBytes = takeSize(SCRIPT_LIMIT);
            into.inputScript[i] = next;
            into.inputScriptBytes[i] = scriptBytes;
            skip(scriptBytes + 4);
        }

        private void takeOutput(Transaction into, int i) {
            into.outputBegin[i] = next;
            skip(8);
            int scriptBytes = takeSize(SCRIPT_LIMIT);
            into.outputScript[i] = next;
            into.outputScriptBytes[i] = scriptBytes;
            skip(scriptBytes);
        }

        private void skip(int n) {
            if (fault != NO_FAULT) {
                return;
            }
            if (n > text.length - next) {
                fail(FAULT_ENDS, text.length);
                return;
            }
            next += n;
        }

        /** The size that stands here; 0 if there is a fault, so that no loop begins behind it. */
        private int takeSize(int limit) {
            int first = next;
            skip(1);
            if (fault != NO_FAULT) {
                return 0;
            }
            int mark = text.at(first);
            int width = widthOfMark(mark);
            skip(width);
            if (fault != NO_FAULT) {
                return 0;
            }
            long value = width == 0 ? mark : text.lowFirst(first + 1, width);
            if (widthOfSize(value) < width) {
                fail(FAULT_LONG, first);
                return 0;
            }
            if (value < 0 || value > limit) {
                fail(FAULT_MUCH, first);
                return 0;
            }
            return (int) value;
        }

        private void fail(int which, int where) {
            if (fault == NO_FAULT) {
                fault = which;
                faultPlace = where;
            }
        }
    }

    /** Puts names together in pairs, row after row in the same place, until the root is left. */
    private static final class NameRow {
        /** The root stands in its first 32 bytes. */
        final byte[] names = new byte[TRANSACTION_LIMIT * NAME_BYTES];
        boolean doubtful = false;

        void putTogether(byte[] from, int count, Namer namer) {
            doubtful = false;
            for (int i = 0; i < NAME_BYTES; i++) {
                names[i] = 0;
            }
            for (int i = 0; i < count * NAME_BYTES && i < names.length && i < from.length; i++) {
                names[i] = from[i];
            }
            for (int left = count; left > 1; left = (left + 1) / 2) {
                putPairsTogether(left, namer);
            }
        }

        private void putPairsTogether(int count, Namer namer) {
            int pairs = (count + 1) / 2;
            for (int p = 0; p < pairs; p++) {
                int first = 2 * p;
                if (first + 1 == count) {
                    repeat(first);
                } else if (alike(first)) {
                    doubtful = true;
                }
                namer.writeName(names, first * NAME_BYTES, 2 * NAME_BYTES, names, p * NAME_BYTES);
            }
        }

        private void repeat(int which) {
            int from = which * NAME_BYTES;
            if (from < 0 || from > names.length - 2 * NAME_BYTES) {
                return;
            }
            for (int i = 0; i < NAME_BYTES; i++) {
                names[from + NAME_BYTES + i] = names[from + i];
            }
        }

        private boolean alike(int which) {
            int from = which * NAME_BYTES;
            if (from < 0 || from > names.length - 2 * NAME_BYTES) {
                return false;
            }
            for (int i = 0; i < NAME_BYTES; i++) {
                if (names[from + i] != names[from + NAME_BYTES + i]) {
                    return false;
                }
            }
            return true;
        }
    }

    /** Makes names: the SHA-256 (FIPS 180-4) of the SHA-256. */
    private static final class Namer {
        private static final int[] START = {
            0x6a09e667, 0xbb67ae85, 0x3c6ef372, 0xa54ff53a,
            0x510e527f, 0x9b05688c, 0x1f83d9ab, 0x5be0cd19
        };
        private static final int[] ROUND = {
            0x428a2f98, 0x71374491, 0xb5c0fbcf, 0xe9b5dba5,
            0x3956c25b, 0x59f111f1, 0x923f82a4, 0xab1c5ed5,
            0xd807aa98, 0x12835b01, 0x243185be, 0x550c7dc3,
            0x72be5d74, 0x80deb1fe, 0x9bdc06a7, 0xc19bf174,
            0xe49b69c1, 0xefbe4786, 0x0fc19dc6, 0x240ca1cc,
            0x2de92c6f, 0x4a7484aa, 0x5cb0a9dc, 0x76f988da,
            0x983e5152, 0xa831c66d, 0xb00327c8, 0xbf597fc7,
            0xc6e00bf3, 0xd5a79147, 0x06ca6351, 0x14292967,
            0x27b70a85, 0x2e1b2138, 0x4d2c6dfc, 0x53380d13,
            0x650a7354, 0x766a0abb, 0x81c2c92e, 0x92722c85,
            0xa2bfe8a1, 0xa81a664b, 0xc24b8b70, 0xc76c51a3,
            0xd192e819, 0xd6990624, 0xf40e3585, 0x106aa070,
            0x19a4c116, 0x1e376c08, 0x2748774c, 0x34b0bcb5,
            0x391c0cb3, 0x4ed8aa4a, 0x5b9cca4f, 0x682e6ff3,
            0x748f82ee, 0x78a5636f, 0x84c87814, 0x8cc70208,
            0x90befffa, 0xa4506ceb, 0xbef9a3f7, 0xc67178f2
        };
        private final int[] state = new int[8];
        private final int[] schedule = new int[64];
        private final byte[] firstDigest = new byte[NAME_BYTES];

        /** Both digests are whole before a byte is written: the target may lie in the source. */
        void writeName(byte[] source, int from, int length, byte[] target, int to) {
            if (from < 0 || length < 0 || from > source.length - length) {
                return;
            }
            digest(source, from, length);
            writeState(firstDigest, 0);
            digest(firstDigest, 0, NAME_BYTES);
            writeState(target, to);
        }

        private void digest(byte[] source, int from, int length) {
            for (int i = 0; i < 8; i++) {
                state[i] = START[i];
            }
            int chunks = (length + 8) / 64 + 1;
            for (int c = 0; c < chunks; c++) {
                // Four bytes push what a word held before out of it.
                for (int i = 0; i < 64; i++) {
                    int b = paddedByte(source, from, length, c * 64 + i);
                    schedule[i / 4] = (schedule[i / 4] << 8) | b;
                }
                stretchSchedule();
                mixChunk();
            }
        }

        /** Behind the bytes: 128, zeros, and how many bits there were (they fit in four bytes). */
        private static int paddedByte(byte[] source, int from, int length, int i) {
            if (i < length) {
                return source[from + i] & 255;
            }
            if (i == length) {
                return 128;
            }
            int last = ((length + 8) / 64 + 1) * 64 - 1;
            return i > last - 4 ? ((length * 8) >>> (8 * (last - i))) & 255 : 0;
        }

        private void stretchSchedule() {
            for (int i = 16; i < 64; i++) {
                int near = schedule[i - 2];
                int far = schedule[i - 15];
                int nearMixed = turn(near, 17) ^ turn(near, 19) ^ (near >>> 10);
                int farMixed = turn(far, 7) ^ turn(far, 18) ^ (far >>> 3);
                schedule[i] = nearMixed + schedule[i - 7] + farMixed + schedule[i - 16];
            }
        }

        private void mixChunk() {
            int a = state[0];
            int b = state[1];
            int c = state[2];
            int d = state[3];
            int e = state[4];
            int f = state[5];
            int g = state[6];
            int h = state[7];
            for (int i = 0; i < 64; i++) {
                int choice = (e & f) ^ (~e & g);
                int majority = (a & b) ^ (a & c) ^ (b & c);
                int eMixed = turn(e, 6) ^ turn(e, 11) ^ turn(e, 25);
                int aMixed = turn(a, 2) ^ turn(a, 13) ^ turn(a, 22);
                int added = h + eMixed + choice + ROUND[i] + schedule[i];
                h = g;
                g = f;
                f = e;
                e = d + added;
                d = c;
                c = b;
                b = a;
                a = added + aMixed + majority;
            }
            state[0] += a;
            state[1] += b;
            state[2] += c;
            state[3] += d;
            state[4] += e;
            state[5] += f;
            state[6] += g;
            state[7] += h;
        }

        private static int turn(int x, int n) {
            return (x >>> n) | (x << (32 - n));
        }

        private void writeState(byte[] target, int to) {
            if (to < 0 || to > target.length - NAME_BYTES) {
                return;
            }
            for (int i = 0; i < NAME_BYTES; i++) {
                target[to + i] = (byte) (state[i / 4] >>> (24 - 8 * (i % 4)));
            }
        }
    }
}
