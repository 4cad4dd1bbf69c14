/** Promises 5 to 7, sentence by sentence. */
public final class EdgeReadingTest {
    public static void main(String[] args) {
        asBlockOrTransaction();
        noBytesAnyMore();
        howManyTransactions();
        orItsFault();
        whatWasReadBeforeIsGone();
        placeOfTheLastFault();
        noPlaceWithoutAFault();
        noPlaceBeforeReading();
        everyByte();
        noByteBehindOrBefore();
        noByteWithAFault();
        Check.end();
    }

    private static Wire rich(int seed) {
        return new Wire().low(seed, 4).size(1).input(seed, seed, 3, seed).size(1).output(seed, seed, 7).low(seed, 4);
    }

    private static Wire doubtfulBlock() {
        return new Wire().head().size(2).add(rich(5)).add(rich(5));
    }

    /** One text that is a block without transactions, and also a transaction with a byte behind it. */
    private static void asBlockOrTransaction() {
        Check.sentence("Promise 5", "The text is read as a block (or transaction)");
        Wire wire = new Wire().low(1, 4).size(0).size(1).low(0, 8).size(61).fill(0, 61).low(0, 4).size(0);
        Check.due("length", wire.length(), 81);
        WireDesk x = wire.desk();
        Check.due("read as a block", x.read(true), 0);
        Check.due("no transaction in it", x.look(0, 0), -1);
        WireDesk y = wire.desk();
        Check.due("read as a transaction", y.read(false), -5);
        Check.due("where it ends", y.place(), 80);
        WireDesk z = Wire.whole(80).desk();
        Check.due("read of 80 bytes as a transaction", z.read(false), 1);
        Check.due("no head in it", z.head(0), -1);
    }

    private static void emptyNow(String after, WireDesk x, boolean block) {
        Check.due("read again after " + after, x.read(block), -2);
        Check.due("its place after " + after, x.place(), 0);
    }

    private static void noBytesAnyMore() {
        Check.sentence("Promise 5", "and has no bytes any more");
        for (int again = 0; again < 2; again++) {
            WireDesk x = new Wire().small(1).desk();
            Check.due("read", x.read(false), 1);
            emptyNow("a transaction", x, again == 1);
            doubtfulBlock().give(x);
            Check.due("read of a block", x.read(true), 2);
            emptyNow("a block", x, again == 1);
            new Wire().small(1).fill(0, 1).give(x);
            Check.due("read of too much", x.read(false), -5);
            emptyNow("fault 4", x, again == 1);
            new Wire().low(1, 4).size(9).give(x);
            Check.due("read of too many inputs", x.read(false), -4);
            emptyNow("fault 3", x, again == 1);
            new Wire().low(1, 4).wideSize(253, 1).give(x);
            Check.due("read of a long size", x.read(false), -3);
            emptyNow("fault 2", x, again == 1);
            new Wire().low(1, 3).give(x);
            Check.due("read of too few bytes", x.read(false), -2);
            emptyNow("fault 1", x, again == 1);
            new Wire().small(8).give(x);
            Check.due("read of a new text", x.read(false), 1);
            Check.due("its bytes", x.look(0, 5), 10);
        }
        WireDesk full = Wire.whole(2000).desk();
        Check.due("read of a full text", full.read(false), 1);
        Wire.whole(2000).give(full);
        Check.due("read of a full text again", full.read(false), 1);
    }

    private static void howManyTransactions() {
        Check.sentence("Promise 5", "how many transactions");
        for (int count = 0; count <= 12; count++) {
            Wire wire = new Wire().head().size(count);
            for (int t = 0; t < count; t++) {
                wire.small(t);
            }
            Check.due("read of " + count, wire.desk().read(true), count);
        }
        Check.due("read of a transaction", new Wire().small(1).desk().read(false), 1);
    }

    private static void orItsFault() {
        Check.sentence("Promise 5", "or -1 - its fault");
        Check.due("fault 1", new Wire().low(1, 4).desk().read(false), -2);
        Check.due("fault 2", new Wire().low(1, 4).wideSize(253, 0).desk().read(false), -3);
        Check.due("fault 3", new Wire().low(1, 4).size(9).desk().read(false), -4);
        Check.due("fault 4", new Wire().small(1).fill(0, 1).desk().read(false), -5);
        Check.due("fault 1 of a block", new Wire().head().desk().read(true), -2);
        Check.due("fault 2 of a block", new Wire().head().wideSize(253, 0).desk().read(true), -3);
        Check.due("fault 3 of a block", new Wire().head().size(13).desk().read(true), -4);
        Check.due("fault 4 of a block", new Wire().head().size(0).fill(0, 1).desk().read(true), -5);
    }

    /** After each fault, and after a reading of the other kind. */
    private static void whatWasReadBeforeIsGone() {
        Check.sentence("Promise 5", "What was read before is gone");
        Wire[] faulty = {new Wire(), doubtfulBlock().fill(0, 1), new Wire().head().size(13).fill(0, 99),
            new Wire().head().wideSize(253, 2).add(rich(5)).add(rich(5)), new Wire().head().size(3).add(rich(5)).add(rich(5))};
        int[] answers = {-2, -5, -4, -3, -2};
        for (int f = 0; f < faulty.length; f++) {
            WireDesk x = doubtfulBlock().desk();
            Check.due("read", x.read(true), 2);
            faulty[f].give(x);
            Check.due("read with a fault", x.read(true), answers[f]);
            Snapshot.nothingRead("fault " + (-1 - answers[f]), x);
        }
        WireDesk x = doubtfulBlock().desk();
        Check.due("read", x.read(true), 2);
        new Wire().small(3).give(x);
        Check.due("read of a transaction", x.read(false), 1);
        Snapshot after = new Snapshot(x);
        WireDesk fresh = new Wire().small(3).desk();
        Check.due("read by a new object", fresh.read(false), 1);
        after.stands("reading by a new object", fresh);
        new Wire().head().size(0).give(x);
        Check.due("read of an empty block", x.read(true), 0);
        Snapshot afterBlock = new Snapshot(x);
        new Wire().head().size(0).give(fresh);
        Check.due("read of an empty block by the other object", fresh.read(true), 0);
        afterBlock.stands("reading by the other object", fresh);
        Check.due("transaction of the empty block", x.look(0, 0), -1);
        Check.due("doubt in the empty block", x.isDoubtful(), false);
    }

    private static void placeOfTheLastFault() {
        Check.sentence("Promise 6", "The place of the last fault");
        WireDesk x = new WireDesk();
        for (int length : new int[] {9, 3, 0, 80, 20}) {
            Wire.of(java.util.Arrays.copyOf(Wire.whole(100).bytes(), length)).give(x);
            Check.due("read", x.read(false), -2);
            Check.due("place", x.place(), length);
            Check.due("place asked again", x.place(), length);
        }
        new Wire().low(1, 4).size(9).give(x);
        Check.due("place while the next text is written", x.place(), 20);
        Check.due("read", x.read(false), -4);
        Check.due("place of the next fault", x.place(), 4);
    }

    private static void noPlaceWithoutAFault() {
        Check.sentence("Promise 6", "-1 if there was none");
        WireDesk x = new Wire().small(1).desk();
        Check.due("read", x.read(false), 1);
        Check.due("place", x.place(), -1);
        new Wire().small(1).fill(0, 1).give(x);
        Check.due("place before the next reading", x.place(), -1);
        Check.due("read with a fault", x.read(false), -5);
        Check.due("place of the fault", x.place(), 10);
        new Wire().head().size(0).give(x);
        Check.due("read without a fault", x.read(true), 0);
        Check.due("place after it", x.place(), -1);
    }

    private static void noPlaceBeforeReading() {
        Check.sentence("Promise 6", "or nothing was read");
        WireDesk x = new WireDesk();
        Check.due("place of a new object", x.place(), -1);
        new Wire().low(1, 4).size(9).give(x);
        Check.due("place with a faulty text that was not read", x.place(), -1);
        Check.due("refused", x.put(1, 0), false);
        Check.due("place after a refused call", x.place(), -1);
    }

    private static void everyByte() {
        Check.sentence("Promise 7", "Byte i of what was read");
        byte[] block = new Wire().head().size(1).low(0x80FF7F00L, 4).size(0).size(1).output(130, -2, 100).low(7, 4).bytes();
        WireDesk x = Wire.of(block).desk();
        Check.due("read", x.read(true), 1);
        for (int i = 0; i < block.length; i++) {
            Check.due("byte " + i, x.byteOf(i), block[i] & 255);
        }
        byte[] full = Wire.whole(2000).bytes();
        for (int from = 0; from < 2000; from += 200) {
            WireDesk y = Wire.of(full).desk();
            Check.due("read", y.read(false), 1);
            for (int i = from; i < from + 200; i++) {
                Check.due("byte " + i + " of a full text", y.byteOf(i), full[i] & 255);
            }
        }
    }

    private static void noByteBehindOrBefore() {
        Check.sentence("Promise 7", "-1 if there is none");
        for (int length : new int[] {10, 100, 1999, 2000}) {
            WireDesk x = Wire.whole(length).desk();
            Check.due("byte 0 before reading", x.byteOf(0), -1);
            Check.due("read", x.read(false), 1);
            Check.due("last byte", x.byteOf(length - 1), 8);
            for (int i : new int[] {length, length + 1, 2000, 2001, 4000, Integer.MAX_VALUE, -1, -2, -length,
                Integer.MIN_VALUE, Integer.MIN_VALUE + 1}) {
                Check.due("byte " + i + " of " + length, x.byteOf(i), -1);
            }
        }
        WireDesk shorter = Wire.whole(100).desk();
        Check.due("read", shorter.read(false), 1);
        new Wire().small(1).give(shorter);
        Check.due("last byte while a text is written", shorter.byteOf(99), 8);
        Check.due("read of a shorter text", shorter.read(false), 1);
        Check.due("last byte of it", shorter.byteOf(9), 0);
        Check.due("byte behind it", shorter.byteOf(10), -1);
        Check.due("last byte of the text before", shorter.byteOf(99), -1);
    }

    private static void noByteWithAFault() {
        Check.sentence("Promise 7", "(without a fault)");
        Wire[] faulty = {Wire.of(java.util.Arrays.copyOf(Wire.whole(50).bytes(), 49)), new Wire().low(1, 4).wideSize(253, 0),
            new Wire().low(1, 4).size(9).fill(0, 50), Wire.whole(50).fill(0, 1)};
        for (int f = 0; f < faulty.length; f++) {
            WireDesk x = Wire.whole(50).desk();
            Check.due("read", x.read(false), 1);
            faulty[f].give(x);
            Check.due("read with a fault", x.read(false), -2 - f);
            for (int i = -1; i <= 52; i++) {
                Check.due("byte " + i + " with fault " + (1 + f), x.byteOf(i), -1);
            }
        }
    }
}
