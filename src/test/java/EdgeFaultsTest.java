import java.util.Arrays;

/** 'Terms', the sentences on faults and their places. */
public final class EdgeFaultsTest {
    public static void main(String[] args) {
        textEnds();
        textEndsInEverySize();
        sizeTooLong();
        sizeTooMuch();
        textGoesOn();
        firstFromTheLeft();
        onlySizesCanBeWrong();
        Check.end();
    }

    private static void reads(String what, Wire wire, boolean block, int fault, int place) {
        WireDesk x = wire.desk();
        Check.due(what + ": read", x.read(block), -1 - fault);
        Check.due(what + ": place", x.place(), place);
    }

    private static void textEnds() {
        Check.sentence("Terms", "1 the text ends there before all of it has been read (the PLACE is its length)");
        byte[] transaction = new Wire().low(1, 4).size(1).input(1, 2, 5, 3).size(2).output(4, 5, 6).output(7, 8, 0)
            .low(9, 4).bytes();
        for (int n = 0; n < transaction.length; n++) {
            reads("transaction cut to " + n, Wire.of(Arrays.copyOf(transaction, n)), false, 1, n);
        }
        byte[] block = new Wire().head().size(2).add(Wire.of(transaction)).small(1).bytes();
        for (int n = 0; n < block.length; n++) {
            reads("block cut to " + n, Wire.of(Arrays.copyOf(block, n)), true, 1, n);
        }
        Wire full = new Wire().low(1, 4).size(8);
        for (int i = 0; i < 8; i++) {
            full.input(i, i, 200, i);
        }
        byte[] tooFar = full.size(2).output(1, 1, 40).output(2, 2, 200).bytes();
        reads("a full text", Wire.of(Arrays.copyOf(tooFar, 2000)), false, 1, 2000);
        reads("a text but for one byte", Wire.of(Arrays.copyOf(Wire.whole(2000).bytes(), 1999)), false, 1, 1999);
    }

    private static void textEndsInEverySize() {
        Check.sentence("Terms", "1 the text ends there before all of it has been read", "within a size");
        Wire[] begins = {new Wire().low(1, 4), new Wire().low(1, 4).size(1).fill(1, 36), new Wire().low(1, 4).size(0),
            new Wire().low(1, 4).size(0).size(1).fill(1, 8), new Wire().head()};
        for (int where = 0; where < begins.length; where++) {
            for (int mark = 253; mark <= 255; mark++) {
                Wire wire = Wire.of(begins[where].bytes()).low(mark, 1);
                int width = 2 << (mark - 253);
                for (int has = 0; has < width; has++) {
                    reads(mark + " and " + has + " bytes", wire, where == 4, 1, wire.length());
                    wire.low(has, 1);
                }
            }
        }
    }

    private static void sizeTooLong() {
        Check.sentence("Terms", "2 a size is longer than it must be (the place of its first byte)");
        reads("inputs", new Wire().low(1, 4).wideSize(253, 0).size(0).low(0, 4), false, 2, 4);
        reads("script of the second input", new Wire().low(1, 4).size(2).input(1, 1, 7, 1).fill(2, 36).wideSize(254, 1)
            .fill(0, 20), false, 2, 4 + 1 + 48 + 36);
        reads("outputs", new Wire().low(1, 4).size(1).input(1, 1, 0, 1).wideSize(255, 1).fill(0, 20), false, 2, 46);
        reads("script of the third output", new Wire().low(1, 4).size(0).size(3).output(1, 1, 1).output(2, 2, 2)
            .low(3, 8).wideSize(253, 200).fill(0, 204), false, 2, 6 + 10 + 11 + 8);
        reads("transactions", new Wire().head().wideSize(253, 1).small(1), true, 2, 80);
        reads("inputs of the second transaction", new Wire().head().size(2).small(1).low(1, 4).wideSize(253, 0)
            .size(0).low(0, 4), true, 2, 95);
    }

    private static void sizeTooMuch() {
        Check.sentence("Terms", "3 a size says more than there may be (likewise)");
        reads("inputs", new Wire().low(1, 4).size(9).fill(0, 400), false, 3, 4);
        reads("script of the second input", new Wire().low(1, 4).size(2).input(1, 1, 7, 1).fill(2, 36).size(201)
            .fill(0, 300), false, 3, 4 + 1 + 48 + 36);
        reads("outputs", new Wire().low(1, 4).size(1).input(1, 1, 0, 1).size(9).fill(0, 400), false, 3, 46);
        reads("script of the third output", new Wire().low(1, 4).size(0).size(3).output(1, 1, 1).output(2, 2, 2)
            .low(3, 8).size(201).fill(0, 205), false, 3, 6 + 10 + 11 + 8);
        reads("transactions", new Wire().head().size(13).fill(0, 400), true, 3, 80);
        reads("outputs of the second transaction", new Wire().head().size(2).small(1).low(1, 4).size(0).size(9)
            .fill(0, 400), true, 3, 96);
        reads("a wide one", new Wire().low(1, 4).size(1).fill(1, 36).size(65536).fill(0, 300), false, 3, 41);
    }

    private static void textGoesOn() {
        Check.sentence("Terms", "4 the transaction, or block, ends, and the text goes on (where)");
        for (int length : new int[] {10, 19, 64, 1000, 1999}) {
            reads("one byte behind " + length, Wire.whole(length).fill(0, 1), false, 4, length);
        }
        reads("a second transaction", new Wire().small(1).small(2), false, 4, 10);
        reads("up to 2000", new Wire().small(1).fill(255, 1990), false, 4, 10);
        reads("behind an empty block", new Wire().head().size(0).fill(0, 1), true, 4, 81);
        reads("behind a block", new Wire().head().size(2).small(1).small(2).fill(253, 1), true, 4, 101);
        reads("a transaction more than the block says", new Wire().head().size(1).small(1).small(2), true, 4, 91);
        reads("behind a block, up to 2000", new Wire().head().size(0).fill(7, 1919), true, 4, 81);
    }

    /** Of two faults the left one is told; what is wrong with a size comes before the end right behind it. */
    private static void firstFromTheLeft() {
        Check.sentence("Terms", "at the first place, from the left, where something is wrong");
        reads("too much, then the end", new Wire().low(1, 4).size(9), false, 3, 4);
        reads("too long, then the end", new Wire().low(1, 4).wideSize(253, 1), false, 2, 4);
        reads("too much, then too long", new Wire().low(1, 4).size(0).size(1).low(1, 8).size(201).wideSize(253, 1),
            false, 3, 14);
        reads("too long, then too much", new Wire().low(1, 4).wideSize(254, 0).size(9).fill(0, 9), false, 2, 4);
        reads("the end, though there are too few inputs", new Wire().low(1, 4).size(8).input(1, 1, 0, 1), false, 1, 46);
        reads("too many transactions, then a fault in one", new Wire().head().size(13).low(1, 4).wideSize(253, 0),
            true, 3, 80);
        reads("a fault in the first of two", new Wire().head().size(2).low(1, 4).size(9).low(1, 4).wideSize(253, 0),
            true, 3, 85);
        reads("a fault, and bytes behind", new Wire().low(1, 4).size(0).wideSize(253, 0).low(0, 4).fill(9, 9), false, 2, 5);
        reads("too long and too much at once", new Wire().low(1, 4).wideSize(253, 9), false, 2, 4);
        reads("too long and too much at once, transactions", new Wire().head().wideSize(254, 13), true, 2, 80);
        reads("a text that both kinds begin with", new Wire().small(1), true, 1, 10);
    }

    private static void onlySizesCanBeWrong() {
        Check.sentence("Terms", "where something is wrong", "nothing else than a size can be");
        for (int b : new int[] {0, 127, 128, 252, 253, 254, 255}) {
            Wire transaction = new Wire().fill(b, 4).size(1).fill(b, 36).size(9).fill(b, 9).fill(b, 4)
                .size(1).fill(b, 8).size(200).fill(b, 200).fill(b, 4);
            WireDesk x = transaction.desk();
            Check.due("read of a transaction with bytes " + b, x.read(false), 1);
            Check.due("its place", x.place(), -1);
            WireDesk y = new Wire().fill(b, 80).size(1).add(transaction).desk();
            Check.due("read of a block with bytes " + b, y.read(true), 1);
            Check.due("its place", y.place(), -1);
        }
    }
}
