/** An object is used for 512 calls: the last ones are answered like the first ones. */
final class LastCallTest {
    private static final int CALLS = 512;
    private static final Checks CHECKS = new Checks("LastCallTest");

    public static void main(String[] args) {
        changesUntilTheEnd();
        longWalksUntilTheEnd();
        CHECKS.end();
    }

    private static void changesUntilTheEnd() {
        CodeMover x = loop();
        for (int call = 7; call + 3 <= CALLS; call += 4) {
            CHECKS.same("needed, call " + call, 0, x.needed(0, true));
            CHECKS.same("compute, call " + (call + 1), 1, x.compute(1, 0));
            CHECKS.same("needed, call " + (call + 2), 1, x.needed(0, true));
            CHECKS.same("drop, call " + (call + 3), 0, x.drop(1));
        }
    }

    private static void longWalksUntilTheEnd() {
        CodeMover x = loop();
        for (int i = 0; i < 12; i++) {
            x.compute(1, 0);
        }
        for (int call = 19; call < CALLS; call += 2) {
            CHECKS.same("walk, call " + call, 1000, x.walk(0L, 1000));
            CHECKS.same("computed, call " + (call + 1), 12 * 999, x.computed(0));
        }
    }

    /** Six calls: block 1 leads to itself and to block 2. */
    private static CodeMover loop() {
        CodeMover x = new CodeMover();
        x.addExpression(1);
        x.addBlock();
        x.addBlock();
        x.addEdge(0, 1);
        x.addEdge(1, 1);
        x.addEdge(1, 2);
        return x;
    }
}
