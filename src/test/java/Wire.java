import java.io.ByteArrayOutputStream;
import java.security.MessageDigest;
import java.security.NoSuchAlgorithmException;

/** Puts texts together for the tests, without using the class that is tested. */
final class Wire {
    private final ByteArrayOutputStream out = new ByteArrayOutputStream();

    Wire high(long v, int n) {
        for (int i = n - 1; i >= 0; i--) {
            out.write((int) (v >>> (8 * i)));
        }
        return this;
    }

    Wire low(long v, int n) {
        for (int i = 0; i < n; i++) {
            out.write((int) (v >>> (8 * i)));
        }
        return this;
    }

    Wire size(long v) {
        if (Long.compareUnsigned(v, 253) < 0) {
            return low(v, 1);
        }
        if (Long.compareUnsigned(v, 65536) < 0) {
            return wideSize(253, v);
        }
        return wideSize(Long.compareUnsigned(v, 4294967296L) < 0 ? 254 : 255, v);
    }

    /** A size as wide as the mark says, whether it must be or not. */
    Wire wideSize(int mark, long v) {
        return low(mark, 1).low(v, mark == 253 ? 2 : mark == 254 ? 4 : 8);
    }

    Wire fill(int b, int n) {
        for (int i = 0; i < n; i++) {
            out.write(b);
        }
        return this;
    }

    /** n bytes that differ from their neighbours, so that a place off by one shows. */
    Wire count(int from, int n) {
        for (int i = 0; i < n; i++) {
            out.write(from + i * 7);
        }
        return this;
    }

    Wire add(Wire other) {
        out.writeBytes(other.bytes());
        return this;
    }

    Wire input(int seed, long index, int scriptBytes, long sequence) {
        return count(seed, 32).low(index, 4).size(scriptBytes).count(seed + 1, scriptBytes).low(sequence, 4);
    }

    Wire output(int seed, long value, int scriptBytes) {
        return low(value, 8).size(scriptBytes).count(seed, scriptBytes);
    }

    /** The smallest transaction there is: 10 bytes. */
    Wire small(long version) {
        return low(version, 4).size(0).size(0).low(0, 4);
    }

    /** A whole transaction of so many bytes: 10, or 19 to 2000. */
    static Wire whole(int length) {
        int inputs = 0;
        int left = length - 10;
        while (left > 8 * 209) {
            inputs++;
            left -= 241;
        }
        int outputs = (left + 208) / 209;
        int scripts = left - 9 * outputs;
        Wire wire = new Wire().low(0x04030201, 4).size(inputs);
        for (int i = 0; i < inputs; i++) {
            wire.input(i, i, 200, i);
        }
        wire.size(outputs);
        for (int i = 0; i < outputs; i++) {
            int script = Math.min(200, scripts);
            wire.output(i, i, script);
            scripts -= script;
        }
        wire.low(0x08070605, 4);
        if (wire.length() != length) {
            throw new IllegalArgumentException("no transaction has " + length + " bytes");
        }
        return wire;
    }

    Wire head() {
        return low(2, 4).count(3, 32).count(91, 32).low(1231006505L, 4).low(486604799L, 4).low(2083236893L, 4);
    }

    int length() {
        return out.size();
    }

    byte[] bytes() {
        return out.toByteArray();
    }

    static Wire of(byte[] bytes) {
        Wire wire = new Wire();
        wire.out.writeBytes(bytes);
        return wire;
    }

    static Wire ofHex(String hex) {
        Wire wire = new Wire();
        for (int i = 0; i < hex.length(); i += 2) {
            wire.out.write(Integer.parseInt(hex.substring(i, i + 2), 16));
        }
        return wire;
    }

    /** A desk with this text behind the one it has. */
    WireDesk give(WireDesk desk) {
        byte[] text = bytes();
        for (int at = 0; at < text.length; at += 8) {
            int n = Math.min(8, text.length - at);
            long v = 0;
            for (int i = 0; i < n; i++) {
                v = (v << 8) | (text[at + i] & 255);
            }
            if (!desk.put(v, n)) {
                Check.due("put at " + at, false, true);
            }
        }
        return desk;
    }

    WireDesk desk() {
        return give(new WireDesk());
    }

    static byte[] nameOf(byte[] bytes) {
        try {
            MessageDigest sha = MessageDigest.getInstance("SHA-256");
            return sha.digest(sha.digest(bytes));
        } catch (NoSuchAlgorithmException e) {
            throw new IllegalStateException(e);
        }
    }

    static long eight(byte[] bytes, int at) {
        long v = 0;
        for (int i = 0; i < 8; i++) {
            v = (v << 8) | (bytes[at + i] & 255);
        }
        return v;
    }
}
