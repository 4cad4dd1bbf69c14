import java.util.Arrays;

/** 'Terms', its last lines: no object has a part in another, and a call that is refused changes nothing. */
public final class EdgeRefusedTest {
    private static final int[] WRONG = {0, -1, 9, Integer.MIN_VALUE, Integer.MAX_VALUE};

    public static void main(String[] args) {
        Check.sentence("Terms", "All memory is the class's own", "and each object has its own");
        objectsAreApart();
        Check.sentence("Terms", "A call that is refused changes nothing", "for a wrong n");
        wrongCounts();
        Check.sentence("Terms", "A call that is refused changes nothing", "put, for want of room");
        noRoomForPut();
        Check.sentence("Terms", "A call that is refused changes nothing", "low, for want of room");
        noRoomForLow();
        Check.sentence("Terms", "A call that is refused changes nothing", "compact, for want of room");
        noRoomForCompact();
        Check.sentence("Terms", "A call that is refused changes nothing", "of what was read");
        whatWasReadStands();
        Check.sentence("Terms", "A call that is refused changes nothing", "a question without an answer");
        questionsChangeNothing();
        Check.end();
    }

    /** What one object reads, with and without a fault, does not show in another one that has a text and has read. */
    private static void objectsAreApart() {
        WireDesk x = block().desk();
        Check.due("read", x.read(true), 2);
        new Wire().small(9).give(x);
        Snapshot before = new Snapshot(x);
        WireDesk other = new Wire().fill(9, 80).size(3).small(1).small(2).small(3).desk();
        before.stands("another object's text", x);
        Check.due("read by another object", other.read(true), 3);
        before.stands("another object's reading", x);
        Check.due("read with a fault by another object", other.read(false), -2);
        before.stands("another object's fault", x);
        Snapshot.nothingRead("its own fault", other);
        Check.due("read of its own text", x.read(false), 1);
        Check.due("version in its own text", x.look(0, 0), 9);
    }

    /** That the text is still this one, seen at both its ends. */
    private static void textIs(String after, WireDesk x, byte[] text) {
        Check.due("read after " + after, x.read(false), 1);
        Check.due("bytes after " + after, x.look(0, 5), text.length);
        for (int i = 0; i < text.length; i++) {
            if (i < 20 || i >= text.length - 40) {
                Check.due("byte " + i + " after " + after, x.byteOf(i), text[i] & 255);
            }
        }
    }

    private static void wrongCounts() {
        byte[] text = Wire.whole(100).bytes();
        for (int n : WRONG) {
            for (int at : new int[] {0, 1, 50, 100}) {
                WireDesk byPut = Wire.of(Arrays.copyOf(text, at)).desk();
                Check.due("put of " + n, byPut.put(-1, n), false);
                textIs("put of " + n + " at " + at, Wire.of(Arrays.copyOfRange(text, at, 100)).give(byPut), text);
                WireDesk byLow = Wire.of(Arrays.copyOf(text, at)).desk();
                Check.due("low of " + n, byLow.low(-1, n), false);
                textIs("low of " + n + " at " + at, Wire.of(Arrays.copyOfRange(text, at, 100)).give(byLow), text);
            }
        }
    }

    /** A whole transaction that leaves so little room that n bytes do not go behind it. */
    private static byte[] almostFull(int room) {
        return Wire.whole(2000 - room).bytes();
    }

    private static void noRoomForPut() {
        for (int n = 1; n <= 8; n++) {
            for (int room = 0; room < n; room++) {
                byte[] text = almostFull(room);
                WireDesk x = Wire.of(text).desk();
                Check.due("put of " + n + " with room for " + room, x.put(-1, n), false);
                textIs("put of " + n + " with room for " + room, x, text);
            }
        }
    }

    private static void noRoomForLow() {
        for (int n = 1; n <= 8; n++) {
            for (int room = 0; room < n; room++) {
                byte[] text = almostFull(room);
                WireDesk x = Wire.of(text).desk();
                Check.due("low of " + n + " with room for " + room, x.low(-1, n), false);
                textIs("low of " + n + " with room for " + room, x, text);
            }
        }
    }

    private static void noRoomForCompact() {
        for (long v : new long[] {0, 252, 253, 65535, 65536, 4294967295L, 4294967296L, Long.MAX_VALUE, -1}) {
            int n = new Wire().size(v).length();
            for (int room = 0; room < n; room++) {
                byte[] text = almostFull(room);
                WireDesk x = Wire.of(text).desk();
                Check.due("compact of " + v + " with room for " + room, x.compact(v), false);
                textIs("compact of " + v + " with room for " + room, x, text);
            }
        }
    }

    /** A doubtful block with all there is to ask about. */
    private static Wire block() {
        Wire transaction = new Wire().low(5, 4).size(1).input(1, 2, 3, 4).size(1).output(5, 6, 7).low(8, 4);
        return new Wire().head().size(2).add(transaction).add(transaction);
    }

    private static void refuse(WireDesk x) {
        Check.due("refused put", x.put(3, 9), false);
        Check.due("refused low", x.low(3, 0), false);
    }

    private static void refuseForRoom(WireDesk x) {
        Wire.of(new byte[2000]).give(x);
        Check.due("put behind a full text", x.put(3, 1), false);
        Check.due("low behind a full text", x.low(3, 8), false);
        Check.due("compact behind a full text", x.compact(3), false);
        Check.due("wide compact behind a full text", x.compact(-1), false);
    }

    private static void whatWasReadStands() {
        WireDesk read = block().desk();
        Check.due("read", read.read(true), 2);
        Check.due("doubt", read.isDoubtful(), true);
        Snapshot before = new Snapshot(read);
        refuse(read);
        before.stands("calls with a wrong n", read);
        WireDesk full = block().desk();
        Check.due("read", full.read(true), 2);
        before.stands("the same text", full);
        refuseForRoom(full);
        before.stands("calls without room", full);
        WireDesk faulty = new Wire().small(1).fill(0, 3).desk();
        Check.due("read with a fault", faulty.read(false), -5);
        refuse(faulty);
        Check.due("place after calls with a wrong n", faulty.place(), 10);
        Snapshot.nothingRead("calls with a wrong n", faulty);
        WireDesk fresh = new WireDesk();
        refuse(fresh);
        Check.due("place of a new object after refused calls", fresh.place(), -1);
        Snapshot.nothingRead("refused calls", fresh);
        Check.due("read after refused calls", fresh.read(true), -2);
        Check.due("place after refused calls", fresh.place(), 0);
    }

    private static void questionsChangeNothing() {
        WireDesk x = block().desk();
        Check.due("read", x.read(true), 2);
        new Wire().small(9).give(x);
        Snapshot before = new Snapshot(x);
        for (int far : new int[] {-1, 2, 8, 12, 2000, Integer.MIN_VALUE, Integer.MAX_VALUE}) {
            Check.due("byteOf " + far, x.byteOf(far > 0 && far < 2000 ? -far : far), -1);
            Check.due("head " + far, x.head(far == 2 ? 4 : far), -1);
            Check.due("look " + far, x.look(far, 0), -1);
            Check.due("look 0 " + far, x.look(0, far == 2 ? 6 : far), -1);
            Check.due("input " + far, x.input(far, 0, 0), -1);
            Check.due("input 0 " + far, x.input(0, far, 0), -1);
            Check.due("input 0 0 " + far, x.input(0, 0, far == 2 ? 5 : far), -1);
            Check.due("output " + far, x.output(far, 0, 0), -1);
            Check.due("output 0 " + far, x.output(0, far, 0), -1);
            Check.due("output 0 0 " + far, x.output(0, 0, far == 2 ? 3 : far), -1);
            Check.due("name " + far, x.name(far == -1 ? -4 : far, 0), 0);
            Check.due("name 0 " + far, x.name(0, far == 2 ? 4 : far), 0);
        }
        before.stands("questions without an answer", x);
        Check.due("read after questions", x.read(false), 1);
        Check.due("version after questions", x.look(0, 0), 9);
    }
}
