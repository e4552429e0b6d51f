/** Promise 24: moving computations. */
final class MovingTest {
    private static final Class<IllegalStateException> STATE = IllegalStateException.class;
    private static final Checks CHECKS = new Checks("MovingTest");

    public static void main(String[] args) {
        nothingToMove();
        outOfALoop();
        firstComputeAlone();
        setsBehindDeletionsAlone();
        insertionsInOrder();
        exitsStayInOrder();
        upToFortyBlocks();
        moreThanFortyBlocks();
        eightInsertions();
        CHECKS.end();
    }

    private static void nothingToMove() {
        CodeMover x = new CodeMover();
        CHECKS.same("move() of the empty program", 0, x.move());
        x.addExpression(0);
        x.compute(0, 0);
        x.compute(0, 0);
        long before = x.digest();
        CHECKS.same("move()", 0, x.move());
        CHECKS.same("digest()", before, x.digest());
    }

    private static void outOfALoop() {
        CodeMover x = Programs.of(3);
        x.addExpression(1);
        x.addEdge(0, 1);
        x.addEdge(1, 1);
        x.addEdge(1, 2);
        x.compute(1, 0);
        x.walk(0L, 100);
        CHECKS.same("computed(0)", 99, x.computed(0));
        CHECKS.same("move()", 1, x.move());
        CHECKS.same("computed(0) is told of the latest walk", 99, x.computed(0));
        CHECKS.same("lastBlock()", 1, x.lastBlock());
        CHECKS.same("blockCount()", 4, x.blockCount());
        CHECKS.same("edgeCount()", 4, x.edgeCount());
        CHECKS.same("ends(0)", 3, x.ends(0));
        CHECKS.same("ends(1)", 41, x.ends(1));
        CHECKS.same("ends(2)", 42, x.ends(2));
        CHECKS.same("ends(3)", 121, x.ends(3));
        CHECKS.same("instruction(1, 0)", 1, x.instruction(1, 0));
        CHECKS.same("size(3)", 1, x.size(3));
        CHECKS.same("instruction(3, 0)", 0, x.instruction(3, 0));
        x.walk(0L, 100);
        CHECKS.same("computed(0) behind move", 1, x.computed(0));
        CHECKS.same("misses()", 0, x.misses());
        CHECKS.same("there(1, false) behind move", 1, x.there(1, false));
        CHECKS.same("move() again", 0, x.move());
    }

    private static void firstComputeAlone() {
        CodeMover x = Programs.of(2);
        x.addExpression(1);
        x.addExpression(2);
        x.addEdge(0, 1);
        x.compute(0, 0);
        x.use(1, 0);
        x.compute(1, 1);
        x.compute(1, 0);
        x.compute(1, 0);
        x.assign(1, 0);
        x.compute(1, 0);
        CHECKS.same("deletions(1)", 1, x.deletions(1));
        CHECKS.same("move()", 0, x.move());
        int[] due = {1, 3, 1, 0, 2, 0};
        for (int i = 0; i < due.length; i++) {
            CHECKS.same("instruction(1, " + i + ")", due[i], x.instruction(1, i));
        }
        CHECKS.same("instruction(0, 0)", 0, x.instruction(0, 0));
        CHECKS.same("early(1) behind move", 3, x.early(1));
    }

    private static void setsBehindDeletionsAlone() {
        CodeMover x = Programs.of(2);
        x.addExpression(1);
        x.addEdge(0, 1);
        x.compute(0, 0);
        x.compute(1, 0);
        CHECKS.same("early(1)", 1, x.early(1));
        CHECKS.same("move()", 0, x.move());
        CHECKS.same("early(1) behind move", 0, x.early(1));
        CHECKS.same("needed(0, true) behind move", 0, x.needed(0, true));
        CHECKS.same("deletions(1) behind move", 0, x.deletions(1));
    }

    private static void insertionsInOrder() {
        CodeMover x = twoJoins();
        CHECKS.same("insertions(2)", 0, x.insertions(2));
        CHECKS.same("insertions(3)", 1 + 4 + 8, x.insertions(3));
        CHECKS.same("insertions(6)", 0, x.insertions(6));
        CHECKS.same("insertions(7)", 2, x.insertions(7));
        CHECKS.same("move()", 2, x.move());
        CHECKS.same("blockCount()", 9, x.blockCount());
        CHECKS.same("ends(3)", 40 * 2 + 7, x.ends(3));
        CHECKS.same("ends(8)", 40 * 7 + 3, x.ends(8));
        CHECKS.same("ends(7)", 40 * 5 + 8, x.ends(7));
        CHECKS.same("ends(9)", 40 * 8 + 6, x.ends(9));
        CHECKS.same("size(7)", 3, x.size(7));
        CHECKS.same("instruction(7, 0)", 0, x.instruction(7, 0));
        CHECKS.same("instruction(7, 1)", 6, x.instruction(7, 1));
        CHECKS.same("instruction(7, 2)", 9, x.instruction(7, 2));
        CHECKS.same("size(8)", 1, x.size(8));
        CHECKS.same("instruction(8, 0)", 3, x.instruction(8, 0));
        CHECKS.same("instruction(6, 0)", 4, x.instruction(6, 0));
    }

    /** Two diamonds behind one another, each with a computation that is there on one side alone. */
    private static CodeMover twoJoins() {
        CodeMover x = Programs.of(7);
        for (int variables = 1; variables <= 8; variables *= 2) {
            x.addExpression(variables);
        }
        int[][] pairs = {{0, 1}, {0, 2}, {1, 3}, {2, 3}, {3, 4}, {3, 5}, {4, 6}, {5, 6}};
        for (int[] pair : pairs) {
            x.addEdge(pair[0], pair[1]);
        }
        x.compute(1, 3);
        x.compute(1, 0);
        x.compute(1, 2);
        x.compute(3, 3);
        x.compute(3, 2);
        x.compute(3, 0);
        x.compute(4, 1);
        x.compute(6, 1);
        return x;
    }

    private static void exitsStayInOrder() {
        CodeMover x = Programs.of(4);
        x.addExpression(1);
        x.addEdge(0, 3);
        x.addEdge(1, 3);
        x.addEdge(0, 1);
        x.compute(1, 0);
        x.compute(3, 0);
        CHECKS.same("insertions(0)", 1, x.insertions(0));
        CHECKS.same("move()", 1, x.move());
        CHECKS.same("walk by the first exit", 3, x.walk(0L, 10));
        CHECKS.same("walk by the second exit", 3, x.walk(1L, 10));
        x.walk(0L, 2);
        CHECKS.same("the first exit leads to the new block", 4, x.lastBlock());
        x.walk(1L, 2);
        CHECKS.same("the second exit leads where it led", 1, x.lastBlock());
        CHECKS.refused("a third exit", x, STATE, () -> x.addEdge(0, 2));
        CHECKS.same("an edge from the new block", 4, x.addEdge(4, 2));
        CHECKS.refused("a third exit of the new block", x, STATE, () -> x.addEdge(4, 1));
    }

    /** The edge from 0 to 1 and the loop: one insertion; filled up with blocks to no purpose. */
    private static CodeMover loopAmong(int blocks) {
        CodeMover x = Programs.of(blocks);
        x.addExpression(1);
        x.addEdge(0, 1);
        x.addEdge(1, 1);
        x.addEdge(1, 2);
        x.compute(1, 0);
        return x;
    }

    private static void upToFortyBlocks() {
        CodeMover x = loopAmong(39);
        CHECKS.same("move()", 1, x.move());
        CHECKS.same("blockCount()", 40, x.blockCount());
        CHECKS.same("move() in 40 blocks", 0, x.move());
        CHECKS.same("ends(0)", 39, x.ends(0));
    }

    private static void moreThanFortyBlocks() {
        CodeMover x = loopAmong(40);
        x.compute(2, 0);
        CHECKS.same("deletions(2)", 1, x.deletions(2));
        CHECKS.refused("move()", x, STATE, x::move);
        CHECKS.same("instruction(1, 0)", 0, x.instruction(1, 0));
        CHECKS.same("instruction(2, 0)", 0, x.instruction(2, 0));
        CHECKS.same("blockCount()", 40, x.blockCount());
        CHECKS.same("edgeCount()", 3, x.edgeCount());
        CHECKS.same("ends(0)", 1, x.ends(0));
    }

    private static void eightInsertions() {
        CodeMover x = Programs.of(3);
        x.addEdge(0, 1);
        x.addEdge(1, 1);
        x.addEdge(1, 2);
        for (int i = 0; i < 8; i++) {
            x.addExpression(0);
            x.compute(1, i);
        }
        CHECKS.same("insertions(0)", 255, x.insertions(0));
        CHECKS.same("move()", 1, x.move());
        CHECKS.same("size(3)", 8, x.size(3));
        for (int i = 0; i < 8; i++) {
            CHECKS.same("instruction(3, " + i + ")", 3 * i, x.instruction(3, i));
            CHECKS.same("instruction(1, " + i + ")", 3 * i + 1, x.instruction(1, i));
        }
    }
}
