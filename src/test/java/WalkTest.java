/** Promises 25 to 29: walks and what the latest one told. */
final class WalkTest {
    private static final Class<IndexOutOfBoundsException> INDEX = IndexOutOfBoundsException.class;
    private static final Class<IllegalArgumentException> ARGUMENT = IllegalArgumentException.class;
    private static final Checks CHECKS = new Checks("WalkTest");

    public static void main(String[] args) {
        noWalkYet();
        blocksWithoutExits();
        bitsOfTheChoices();
        bitsComeAgain();
        oneExitTakesNoBit();
        most();
        computedAndHeld();
        heldThroughTheLoop();
        missesOfUses();
        latestWalkAlone();
        refusedWalkChangesNothing();
        wrongNumbers();
        CHECKS.end();
    }

    private static void noWalkYet() {
        CodeMover x = Programs.of(1);
        x.addExpression(0);
        x.compute(0, 0);
        x.use(0, 0);
        CHECKS.same("computed(0)", 0, x.computed(0));
        CHECKS.same("heldFor(0)", 0, x.heldFor(0));
        CHECKS.same("misses()", 0, x.misses());
        CHECKS.same("lastBlock()", -1, x.lastBlock());
    }

    private static void blocksWithoutExits() {
        CodeMover x = Programs.of(3);
        CHECKS.same("walk(-1, 1000)", 1, x.walk(-1L, 1000));
        CHECKS.same("lastBlock()", 0, x.lastBlock());
        x.addEdge(0, 2);
        CHECKS.same("walk(-1, 1000)", 2, x.walk(-1L, 1000));
        CHECKS.same("lastBlock()", 2, x.lastBlock());
    }

    /** Block 1 leads to itself first, to block 2 second. */
    private static CodeMover loop() {
        CodeMover x = Programs.of(3);
        x.addExpression(1);
        x.addEdge(0, 1);
        x.addEdge(1, 1);
        x.addEdge(1, 2);
        return x;
    }

    private static void bitsOfTheChoices() {
        CodeMover x = loop();
        for (int bit = 0; bit < 64; bit++) {
            CHECKS.same("walk by bit " + bit, 3 + bit, x.walk(1L << bit, 1000));
            CHECKS.same("lastBlock()", 2, x.lastBlock());
        }
        CHECKS.same("walk(6, 1000)", 4, x.walk(6L, 1000));
        CHECKS.same("walk(0, 1000)", 1000, x.walk(0L, 1000));
        CHECKS.same("walk by the highest bit", 66, x.walk(Long.MIN_VALUE, 1000));
    }

    private static void bitsComeAgain() {
        CodeMover x = Programs.of(3);
        x.addEdge(0, 1);
        x.addEdge(0, 2);
        x.addEdge(1, 1);
        x.addEdge(1, 2);
        CHECKS.same("walk(0, 200)", 200, x.walk(0L, 200));
        CHECKS.same("walk(1, 200)", 2, x.walk(1L, 200));
        CodeMover y = Programs.of(4);
        y.addEdge(0, 2);
        y.addEdge(0, 1);
        y.addEdge(1, 3);
        y.addEdge(1, 2);
        y.addEdge(3, 3);
        y.addEdge(3, 2);
        // Block 0 takes the lowest bit, block 1 the next one, block 3 all others and that one again.
        CHECKS.same("walk(1, 1000)", 2 + 63 + 1, y.walk(1L, 1000));
        CHECKS.same("lastBlock()", 2, y.lastBlock());
    }

    private static void oneExitTakesNoBit() {
        CodeMover x = Programs.of(5);
        x.addEdge(0, 1);
        x.addEdge(1, 2);
        x.addEdge(2, 3);
        x.addEdge(2, 4);
        x.walk(1L, 1000);
        CHECKS.same("lastBlock()", 4, x.lastBlock());
        x.walk(-2L, 1000);
        CHECKS.same("lastBlock()", 3, x.lastBlock());
    }

    private static void most() {
        CodeMover x = loop();
        CHECKS.same("walk(0, 1)", 1, x.walk(0L, 1));
        CHECKS.same("lastBlock()", 0, x.lastBlock());
        CHECKS.same("walk(0, 2)", 2, x.walk(0L, 2));
        CHECKS.same("lastBlock()", 1, x.lastBlock());
        CHECKS.same("walk(1, 3)", 3, x.walk(1L, 3));
        CHECKS.same("lastBlock()", 2, x.lastBlock());
        CHECKS.same("walk(0, 1000)", 1000, x.walk(0L, 1000));
        for (int wrong : new int[] {0, -1, 1001, Integer.MIN_VALUE, Integer.MAX_VALUE}) {
            CHECKS.refused("walk(0, " + wrong + ")", x, ARGUMENT, () -> x.walk(0L, wrong));
        }
    }

    private static void computedAndHeld() {
        CodeMover x = Programs.of(2);
        x.addExpression(1);
        x.addExpression(2);
        x.addExpression(0);
        x.addEdge(0, 1);
        x.use(0, 0);
        x.compute(0, 0);
        x.compute(0, 1);
        x.compute(0, 0);
        x.assign(1, 0);
        x.use(1, 1);
        x.compute(1, 0);
        CHECKS.same("walk(0, 9)", 2, x.walk(0L, 9));
        CHECKS.same("computed(0)", 3, x.computed(0));
        CHECKS.same("computed(1)", 1, x.computed(1));
        CHECKS.same("computed(2)", 0, x.computed(2));
        CHECKS.same("heldFor(0)", 3, x.heldFor(0));
        CHECKS.same("heldFor(1)", 4, x.heldFor(1));
        CHECKS.same("heldFor(2)", 0, x.heldFor(2));
        CHECKS.same("misses()", 1, x.misses());
        x.walk(0L, 1);
        CHECKS.same("heldFor(0) in block 0 alone", 2, x.heldFor(0));
        CHECKS.same("heldFor(1) in block 0 alone", 1, x.heldFor(1));
    }

    private static void heldThroughTheLoop() {
        CodeMover x = loop();
        x.compute(0, 0);
        for (int i = 0; i < 12; i++) {
            x.assign(1, 1);
        }
        x.walk(0L, 1000);
        CHECKS.same("heldFor(0)", 12 * 999, x.heldFor(0));
        x.drop(1);
        x.assign(1, 0);
        x.walk(0L, 1000);
        CHECKS.same("heldFor(0) until the first assign", 12, x.heldFor(0));
    }

    private static void missesOfUses() {
        CodeMover x = loop();
        x.use(1, 0);
        x.use(1, 0);
        x.compute(1, 0);
        x.use(1, 0);
        x.walk(1L, 1000);
        CHECKS.same("misses()", 2, x.misses());
        x.walk(0L, 1000);
        CHECKS.same("misses() when the value stays", 2, x.misses());
        x.assign(1, 0);
        x.walk(0L, 1000);
        CHECKS.same("misses() when it is lost", 2 * 999, x.misses());
        x.assign(1, 1);
        x.use(2, 0);
        x.walk(1L, 1000);
        CHECKS.same("misses() with a use behind", 3, x.misses());
    }

    private static void latestWalkAlone() {
        CodeMover x = loop();
        x.compute(1, 0);
        x.use(2, 0);
        x.walk(0L, 1000);
        CHECKS.same("computed(0)", 999, x.computed(0));
        CHECKS.same("heldFor(0)", 998, x.heldFor(0));
        x.walk(1L, 1000);
        CHECKS.same("computed(0)", 1, x.computed(0));
        CHECKS.same("heldFor(0)", 1, x.heldFor(0));
        x.addExpression(0);
        CHECKS.same("computed(1)", 0, x.computed(1));
        CHECKS.same("heldFor(1)", 0, x.heldFor(1));
        x.drop(1);
        CHECKS.same("computed(0) without another walk", 1, x.computed(0));
        x.walk(1L, 1000);
        CHECKS.same("computed(0)", 0, x.computed(0));
        CHECKS.same("misses()", 1, x.misses());
        x.drop(2);
        CHECKS.same("misses() without another walk", 1, x.misses());
        x.walk(1L, 1000);
        CHECKS.same("misses()", 0, x.misses());
    }

    private static void refusedWalkChangesNothing() {
        CodeMover x = loop();
        x.compute(0, 0);
        x.use(1, 0);
        x.walk(0L, 5);
        CHECKS.refused("walk(1, 0)", x, ARGUMENT, () -> x.walk(1L, 0));
        CHECKS.same("computed(0)", 1, x.computed(0));
        CHECKS.same("heldFor(0)", 4, x.heldFor(0));
        CHECKS.same("lastBlock()", 1, x.lastBlock());
    }

    private static void wrongNumbers() {
        CodeMover x = loop();
        x.walk(0L, 10);
        for (int wrong : new int[] {-1, 1, 8, Integer.MIN_VALUE, Integer.MAX_VALUE}) {
            CHECKS.refused("computed(" + wrong + ")", x, INDEX, () -> x.computed(wrong));
            CHECKS.refused("heldFor(" + wrong + ")", x, INDEX, () -> x.heldFor(wrong));
        }
        CHECKS.same("computed(0)", 0, x.computed(0));
    }
}
