/** 'What it is': up to the 512th call of an object all holds, whatever the calls before it were. */
public final class EdgeCallsTest {
    private static final int CALLS = 512;

    public static void main(String[] args) {
        Check.sentence("What it is", "An object is used for at most 512 calls after it has been made");
        readIsTheLastCall();
        readsAllAlong();
        faultsAllAlong();
        refusedAllAlong();
        everyQuestionIsTheLastCall();
        twoFullTexts();
        Check.end();
    }

    /** 511 bytes, each by a call of its own, and the reading. */
    private static void readIsTheLastCall() {
        byte[] text = Wire.whole(CALLS - 1).bytes();
        WireDesk byPut = new WireDesk();
        WireDesk byLow = new WireDesk();
        for (int i = 0; i < text.length; i++) {
            Check.due("put as call " + (i + 1), byPut.put(text[i], 1), true);
            Check.due("low as call " + (i + 1), byLow.low(text[i], 1), true);
        }
        Check.due("read as call 512 after put", byPut.read(false), 1);
        Check.due("read as call 512 after low", byLow.read(false), 1);
    }

    private static void readsAllAlong() {
        WireDesk x = new WireDesk();
        for (int turn = 0; turn < CALLS / 4; turn++) {
            Check.due("low in turn " + turn, x.low(turn + 1, 4), true);
            Check.due("put in turn " + turn, x.put(0, 6), true);
            Check.due("read in turn " + turn, x.read(false), 1);
            Check.due("version in turn " + turn, x.look(0, 0), turn + 1);
        }
    }

    private static void faultsAllAlong() {
        WireDesk x = new WireDesk();
        for (int turn = 0; turn < CALLS / 4; turn++) {
            Check.due("compact in turn " + turn, x.compact(turn), true);
            Check.due("put in turn " + turn, x.put(turn, 1 + turn % 8), true);
            Check.due("read in turn " + turn, x.read(true), -2);
            Check.due("place in turn " + turn, x.place(), 2 + turn % 8);
        }
    }

    private static void refusedAllAlong() {
        WireDesk x = new Wire().small(7).desk();
        for (int call = 3; call < CALLS; call++) {
            Check.due("refused as call " + call, (call & 1) == 0 ? x.put(-1, 9) : x.low(-1, 0), false);
        }
        Check.due("read as call 512 after refused calls", x.read(false), 1);
    }

    private static void everyQuestionIsTheLastCall() {
        Wire transaction = new Wire().low(0x04030201, 4).size(1).input(9, 9, 3, 9).size(1).output(5, 77, 4).low(1, 4);
        Wire wire = new Wire().head().size(2).add(transaction).add(transaction);
        int given = (wire.length() + 7) / 8;
        int length = transaction.length();
        long[] due = {-1, 4, 2083236893L, length, 81 + length + 5, 77,
            Wire.eight(Wire.nameOf(new Wire().head().bytes()), 24), 1};
        for (int question = 0; question < due.length; question++) {
            WireDesk x = wire.desk();
            Check.due("read", x.read(true), 2);
            for (int call = given + 2; call < CALLS; call++) {
                answer(x, call % due.length);
            }
            Check.due("question " + question + " as call 512", answer(x, question), due[question]);
        }
    }

    private static long answer(WireDesk x, int question) {
        switch (question) {
            case 0:
                return x.place();
            case 1:
                return x.byteOf(84);
            case 2:
                return x.head(3);
            case 3:
                return x.look(1, 5);
            case 4:
                return x.input(1, 0, 0);
            case 5:
                return x.output(1, 0, 0);
            case 6:
                return x.name(-1, 3);
            default:
                return x.isDoubtful() ? 1 : 0;
        }
    }

    /** The most that the calls can write: 2000 bytes, and 2000 again. */
    private static void twoFullTexts() {
        WireDesk x = Wire.whole(2000).desk();
        Check.due("read of the first full text", x.read(false), 1);
        Wire.whole(2000).give(x);
        Check.due("read of the second full text", x.read(false), 1);
        Check.due("its last byte", x.byteOf(1999), 8);
        Check.due("its bytes", x.look(0, 5), 2000);
    }
}
