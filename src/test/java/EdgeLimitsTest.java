/** 'Terms', the sentences on how many there may be. */
public final class EdgeLimitsTest {
    private static final int TOO_MUCH = -4;

    public static void main(String[] args) {
        eightInputs();
        eightOutputs();
        scriptsOfInputs();
        scriptsOfOutputs();
        twelveTransactions();
        allLimitsAtOnce();
        noneIsTooFew();
        Check.end();
    }

    private static void reads(String what, Wire wire, boolean block, int answer, int place) {
        WireDesk x = wire.desk();
        Check.due(what + ": read", x.read(block), answer);
        Check.due(what + ": place", x.place(), place);
    }

    /** By itself, and as the last transaction of a block. */
    private static void readsTransaction(String what, Wire wire, int place) {
        reads(what, wire, false, place < 0 ? 1 : TOO_MUCH, place);
        Wire block = new Wire().head().size(2).small(3).add(wire);
        reads(what + " in a block", block, true, place < 0 ? 2 : TOO_MUCH, place < 0 ? -1 : place + 91);
    }

    private static Wire inputs(int n, int script) {
        Wire wire = new Wire().low(1, 4).size(n);
        for (int i = 0; i < n; i++) {
            wire.input(i, i, script, i);
        }
        return wire.size(0).low(0, 4);
    }

    private static Wire outputs(int n, int script) {
        Wire wire = new Wire().low(1, 4).size(0).size(n);
        for (int i = 0; i < n; i++) {
            wire.output(i, i, script);
        }
        return wire.low(0, 4);
    }

    private static void eightInputs() {
        Check.sentence("Terms", "At most 8 inputs");
        readsTransaction("7 inputs", inputs(7, 2), -1);
        readsTransaction("8 inputs", inputs(8, 2), -1);
        readsTransaction("9 inputs", inputs(9, 2), 4);
        readsTransaction("12 inputs", inputs(12, 2), 4);
        WireDesk x = inputs(8, 2).desk();
        Check.due("read", x.read(false), 1);
        Check.due("how many", x.look(0, 1), 8);
        Check.due("index of the last one", x.input(0, 7, 1), 7);
    }

    private static void eightOutputs() {
        Check.sentence("Terms", "At most | 8 outputs");
        readsTransaction("7 outputs", outputs(7, 2), -1);
        readsTransaction("8 outputs", outputs(8, 2), -1);
        readsTransaction("9 outputs", outputs(9, 2), 5);
        readsTransaction("12 outputs", outputs(12, 2), 5);
        WireDesk x = outputs(8, 2).desk();
        Check.due("read", x.read(false), 1);
        Check.due("how many", x.look(0, 2), 8);
        Check.due("value of the last one", x.output(0, 7, 0), 7);
    }

    private static void scriptsOfInputs() {
        Check.sentence("Terms", "scripts of 200 bytes", "an input's");
        readsTransaction("199 bytes", inputs(1, 199), -1);
        readsTransaction("200 bytes", inputs(1, 200), -1);
        readsTransaction("201 bytes", inputs(1, 201), 41);
        readsTransaction("252 bytes", inputs(1, 252), 41);
        readsTransaction("253 bytes", inputs(1, 253), 41);
        readsTransaction("two of 200 bytes", inputs(2, 200), -1);
    }

    private static void scriptsOfOutputs() {
        Check.sentence("Terms", "scripts of 200 bytes", "an output's");
        readsTransaction("199 bytes", outputs(1, 199), -1);
        readsTransaction("200 bytes", outputs(1, 200), -1);
        readsTransaction("201 bytes", outputs(1, 201), 14);
        readsTransaction("252 bytes", outputs(1, 252), 14);
        readsTransaction("253 bytes", outputs(1, 253), 14);
        readsTransaction("two of 200 bytes", outputs(2, 200), -1);
    }

    private static Wire block(int n) {
        Wire wire = new Wire().head().size(n);
        for (int t = 0; t < n; t++) {
            wire.small(t);
        }
        return wire;
    }

    private static void twelveTransactions() {
        Check.sentence("Terms", "12 transactions");
        reads("11 transactions", block(11), true, 11, -1);
        reads("12 transactions", block(12), true, 12, -1);
        reads("13 transactions", block(13), true, TOO_MUCH, 80);
        WireDesk x = block(12).desk();
        Check.due("read", x.read(true), 12);
        Check.due("version of the last one", x.look(11, 0), 11);
    }

    /** As much as 2000 bytes hold: 12 transactions, some with 8 inputs, some with 8 outputs, one with a full script. */
    private static void allLimitsAtOnce() {
        Check.sentence("Terms", "At most 8 inputs and 8 outputs, scripts of 200 bytes, 12 transactions", "all in one text");
        Wire wire = new Wire().head().size(12).add(inputs(8, 0)).add(outputs(8, 0)).add(inputs(1, 200)).add(outputs(1, 200));
        for (int t = 4; t < 12; t++) {
            wire.add(outputs(8, 1));
        }
        WireDesk x = wire.desk();
        Check.due("read", x.read(true), 12);
        Check.due("inputs of the first", x.look(0, 1), 8);
        Check.due("outputs of the second", x.look(1, 2), 8);
        Check.due("script of the third", x.input(2, 0, 3), 200);
        Check.due("script of the fourth", x.output(3, 0, 2), 200);
        Check.due("value of the last one's last", x.output(11, 7, 0), 7);
    }

    private static void noneIsTooFew() {
        Check.sentence("Terms", "none of these is too few");
        readsTransaction("no inputs", outputs(1, 1), -1);
        readsTransaction("no outputs", inputs(1, 1), -1);
        readsTransaction("neither", new Wire().small(1), -1);
        readsTransaction("an empty script of an input", inputs(1, 0), -1);
        readsTransaction("an empty script of an output", outputs(1, 0), -1);
        readsTransaction("empty scripts", inputs(8, 0), -1);
        reads("no transactions", block(0), true, 0, -1);
        WireDesk x = inputs(2, 0).desk();
        Check.due("read", x.read(false), 1);
        Check.due("outputs", x.look(0, 2), 0);
        Check.due("bytes of an empty script", x.input(0, 0, 3), 0);
        Check.due("where the other one begins", x.input(0, 1, 2), 83);
    }
}
