import java.util.ArrayList;
import java.util.Arrays;
import java.util.List;

/** What the document asks for, written a second time in another way, for random runs to be held against. */
final class Model {
    private static final class Fault extends RuntimeException {
        private static final long serialVersionUID = 1L;
        final int which;
        final int where;

        Fault(int which, int where) {
            this.which = which;
            this.where = where;
        }
    }

    private record Part(int begin, int script, int scriptBytes) {
    }

    private record Deal(int begin, int end, List<Part> inputs, List<Part> outputs) {
    }

    private Wire text = new Wire();
    private byte[] kept = {};
    private boolean block = false;
    private List<Deal> deals = new ArrayList<>();
    private int place = -1;
    private int next = 0;

    private boolean fits(Wire more) {
        if (text.length() + more.length() > 2000) {
            return false;
        }
        text.add(more);
        return true;
    }

    boolean put(long v, int n) {
        return n >= 1 && n <= 8 && fits(new Wire().high(v, n));
    }

    boolean low(long v, int n) {
        return n >= 1 && n <= 8 && fits(new Wire().low(v, n));
    }

    boolean compact(long v) {
        return fits(new Wire().size(v));
    }

    int read(boolean asBlock) {
        kept = text.bytes();
        text = new Wire();
        block = asBlock;
        deals = new ArrayList<>();
        place = -1;
        next = 0;
        try {
            if (asBlock) {
                step(80);
            }
            int count = asBlock ? size(12) : 1;
            for (int t = 0; t < count; t++) {
                deals.add(deal());
            }
            if (next != kept.length) {
                throw new Fault(4, next);
            }
            return count;
        } catch (Fault fault) {
            kept = new byte[0];
            block = false;
            deals.clear();
            place = fault.where;
            return -1 - fault.which;
        }
    }

    private Deal deal() {
        int begin = step(4);
        List<Part> inputs = new ArrayList<>();
        for (int n = size(8); n > 0; n--) {
            int at = step(36);
            int bytes = size(200);
            inputs.add(new Part(at, step(bytes), bytes));
            step(4);
        }
        List<Part> outputs = new ArrayList<>();
        for (int n = size(8); n > 0; n--) {
            int at = step(8);
            int bytes = size(200);
            outputs.add(new Part(at, step(bytes), bytes));
        }
        step(4);
        return new Deal(begin, next, inputs, outputs);
    }

    private int step(int n) {
        int at = next;
        if (at + n > kept.length) {
            throw new Fault(1, kept.length);
        }
        next += n;
        return at;
    }

    private int size(int limit) {
        int at = step(1);
        int mark = kept[at] & 255;
        long v = mark;
        if (mark >= 253) {
            int n = 2 << (mark - 253);
            v = number(step(n), n);
        }
        if (new Wire().size(v).length() != next - at) {
            throw new Fault(2, at);
        }
        if (Long.compareUnsigned(v, limit) > 0) {
            throw new Fault(3, at);
        }
        return (int) v;
    }

    private long number(int at, int n) {
        long v = 0;
        for (int i = 0; i < n; i++) {
            v |= (kept[at + i] & 255L) << (8 * i);
        }
        return v;
    }

    int place() {
        return place;
    }

    int byteOf(int i) {
        return i < 0 || i >= kept.length ? -1 : kept[i] & 255;
    }

    long head(int what) {
        if (!block || what < 0 || what > 3) {
            return -1;
        }
        return number(new int[] {0, 68, 72, 76}[what], 4);
    }

    long look(int t, int what) {
        if (t < 0 || t >= deals.size() || what < 0 || what > 5) {
            return -1;
        }
        Deal d = deals.get(t);
        return new long[] {number(d.begin, 4), d.inputs.size(), d.outputs.size(), number(d.end - 4, 4),
            d.begin, d.end - d.begin}[what];
    }

    long input(int t, int i, int what) {
        if (t < 0 || t >= deals.size() || i < 0 || i >= deals.get(t).inputs.size() || what < 0 || what > 4) {
            return -1;
        }
        Part p = deals.get(t).inputs.get(i);
        return new long[] {p.begin, number(p.begin + 32, 4), p.script, p.scriptBytes,
            number(p.script + p.scriptBytes, 4)}[what];
    }

    long output(int t, int i, int what) {
        if (t < 0 || t >= deals.size() || i < 0 || i >= deals.get(t).outputs.size() || what < 0 || what > 2) {
            return -1;
        }
        Part p = deals.get(t).outputs.get(i);
        return new long[] {number(p.begin, 8), p.script, p.scriptBytes}[what];
    }

    private byte[] nameOfDeal(Deal d) {
        return Wire.nameOf(Arrays.copyOfRange(kept, d.begin, d.end));
    }

    private List<byte[]> namesOfDeals() {
        List<byte[]> names = new ArrayList<>();
        for (Deal d : deals) {
            names.add(nameOfDeal(d));
        }
        return names;
    }

    private static byte[] joined(List<byte[]> row, int i) {
        return Wire.nameOf(Wire.of(row.get(i)).add(Wire.of(row.get(Math.min(i + 1, row.size() - 1)))).bytes());
    }

    static List<byte[]> nextRow(List<byte[]> row) {
        List<byte[]> next = new ArrayList<>();
        for (int i = 0; i < row.size(); i += 2) {
            next.add(joined(row, i));
        }
        return next;
    }

    static byte[] root(List<byte[]> row) {
        if (row.isEmpty()) {
            return new byte[32];
        }
        return row.size() == 1 ? row.get(0) : root(nextRow(row));
    }

    long name(int t, int k) {
        if (k < 0 || k > 3 || t < -3 || t >= deals.size() || t < 0 && !block) {
            return 0;
        }
        if (t >= 0) {
            return Wire.eight(nameOfDeal(deals.get(t)), 8 * k);
        }
        if (t == -1) {
            return Wire.eight(Wire.nameOf(Arrays.copyOf(kept, 80)), 8 * k);
        }
        return Wire.eight(t == -2 ? Arrays.copyOfRange(kept, 36, 68) : root(namesOfDeals()), 8 * k);
    }

    boolean isDoubtful() {
        if (!block) {
            return false;
        }
        for (List<byte[]> row = namesOfDeals(); row.size() > 1; row = nextRow(row)) {
            for (int i = 0; i + 1 < row.size(); i += 2) {
                if (Arrays.equals(row.get(i), row.get(i + 1))) {
                    return true;
                }
            }
        }
        return false;
    }
}
