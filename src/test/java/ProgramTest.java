/** Promises 1 to 13: building a program and reading it. */
final class ProgramTest {
    private static final Class<IndexOutOfBoundsException> INDEX = IndexOutOfBoundsException.class;
    private static final Class<IllegalArgumentException> ARGUMENT = IllegalArgumentException.class;
    private static final Class<IllegalStateException> STATE = IllegalStateException.class;
    private static final int[] NEVER = {-1, Integer.MIN_VALUE, Integer.MAX_VALUE, 1 << 30};

    private static final Checks CHECKS = new Checks("ProgramTest");

    public static void main(String[] args) {
        newObject();
        expressions();
        blocks();
        edges();
        edgeRefusals();
        eightyEdges();
        appending();
        appendingRefusals();
        dropping();
        reading();
        CHECKS.end();
    }

    private static void newObject() {
        CodeMover x = new CodeMover();
        CHECKS.same("blocks", 1, x.blockCount());
        CHECKS.same("edges", 0, x.edgeCount());
        CHECKS.same("size(0)", 0, x.size(0));
        CHECKS.same("misses", 0, x.misses());
        CHECKS.same("lastBlock", -1, x.lastBlock());
        CHECKS.refused("computed(0)", x, INDEX, () -> x.computed(0));
        CHECKS.refused("ends(0)", x, INDEX, () -> x.ends(0));
        CHECKS.refused("size(1)", x, INDEX, () -> x.size(1));
        CHECKS.same("kept(0)", 0, x.kept(0));
    }

    private static void expressions() {
        CodeMover x = new CodeMover();
        int[] wrong = {64, -1, 65, 128, Integer.MIN_VALUE, Integer.MAX_VALUE};
        for (int variables : wrong) {
            CHECKS.refused("addExpression(" + variables + ")", x, ARGUMENT,
                    () -> x.addExpression(variables));
        }
        int[] right = {63, 0, 1, 2, 32, 33, 63, 0};
        for (int i = 0; i < 8; i++) {
            CHECKS.same("addExpression(" + right[i] + ")", i, x.addExpression(right[i]));
        }
        CHECKS.same("kept(0)", 255, x.kept(0));
        CHECKS.refused("a ninth expression", x, STATE, () -> x.addExpression(0));
        CHECKS.refused("a wrong ninth expression", x, ARGUMENT, () -> x.addExpression(64));
        x.assign(0, 5);
        CHECKS.same("kept(0) behind v5", 2 + 4 + 8 + 128, x.kept(0));
        CHECKS.same("compute(0, 7)", 2, x.compute(0, 7));
        CHECKS.refused("compute(0, 8)", x, INDEX, () -> x.compute(0, 8));
    }

    private static void blocks() {
        CodeMover x = new CodeMover();
        for (int block = 1; block < 40; block++) {
            CHECKS.same("addBlock()", block, x.addBlock());
            CHECKS.same("blockCount()", block + 1, x.blockCount());
            CHECKS.same("size", 0, x.size(block));
        }
        CHECKS.refused("a block more than 40", x, STATE, x::addBlock);
        CHECKS.same("blockCount()", 40, x.blockCount());
        CHECKS.same("assign(39, 0)", 1, x.assign(39, 0));
    }

    private static void edges() {
        CodeMover x = Programs.of(5);
        int[][] pairs = {{0, 1}, {1, 1}, {1, 4}, {4, 1}, {4, 3}, {3, 1}, {0, 4}, {2, 2}};
        for (int i = 0; i < pairs.length; i++) {
            CHECKS.same("addEdge", i, x.addEdge(pairs[i][0], pairs[i][1]));
            CHECKS.same("edgeCount()", i + 1, x.edgeCount());
        }
        for (int i = 0; i < pairs.length; i++) {
            CHECKS.same("ends(" + i + ")", 40 * pairs[i][0] + pairs[i][1], x.ends(i));
        }
        CHECKS.refused("ends(8)", x, INDEX, () -> x.ends(8));
    }

    private static void edgeRefusals() {
        CodeMover x = Programs.of(4);
        for (int never : NEVER) {
            CHECKS.refused("addEdge(" + never + ", 0)", x, INDEX, () -> x.addEdge(never, 0));
            CHECKS.refused("addEdge(1, " + never + ")", x, INDEX, () -> x.addEdge(1, never));
        }
        CHECKS.refused("addEdge(4, 1)", x, INDEX, () -> x.addEdge(4, 1));
        CHECKS.refused("addEdge(1, 4)", x, INDEX, () -> x.addEdge(1, 4));
        CHECKS.refused("addEdge(4, 0)", x, INDEX, () -> x.addEdge(4, 0));
        CHECKS.refused("addEdge(0, 0)", x, ARGUMENT, () -> x.addEdge(0, 0));
        CHECKS.refused("addEdge(1, 0)", x, ARGUMENT, () -> x.addEdge(1, 0));
        x.addEdge(1, 2);
        CHECKS.refused("the first edge again", x, ARGUMENT, () -> x.addEdge(1, 2));
        x.addEdge(1, 1);
        CHECKS.refused("the second edge again", x, ARGUMENT, () -> x.addEdge(1, 1));
        CHECKS.refused("the first again, behind two", x, ARGUMENT, () -> x.addEdge(1, 2));
        CHECKS.refused("to 0, behind two", x, ARGUMENT, () -> x.addEdge(1, 0));
        CHECKS.refused("to no block, behind two", x, INDEX, () -> x.addEdge(1, 4));
        CHECKS.refused("a third edge", x, STATE, () -> x.addEdge(1, 3));
        CHECKS.same("the other way round", 2, x.addEdge(2, 1));
        CHECKS.same("edgeCount()", 3, x.edgeCount());
    }

    private static void eightyEdges() {
        CodeMover x = Programs.of(40);
        for (int block = 0; block < 40; block++) {
            CHECKS.same("first exit", 2 * block, x.addEdge(block, 39));
            CHECKS.same("second exit", 2 * block + 1, x.addEdge(block, 38));
        }
        CHECKS.same("edgeCount()", 80, x.edgeCount());
        CHECKS.refused("an edge more than 80", x, STATE, () -> x.addEdge(7, 1));
        CHECKS.refused("an edge like one of 80", x, ARGUMENT, () -> x.addEdge(39, 38));
        CHECKS.same("ends(79)", 40 * 39 + 38, x.ends(79));
        CHECKS.refused("ends(80)", x, INDEX, () -> x.ends(80));
    }

    private static void appending() {
        CodeMover x = Programs.of(3);
        for (int i = 0; i < 8; i++) {
            x.addExpression(i);
        }
        CHECKS.same("compute(2, 7)", 1, x.compute(2, 7));
        CHECKS.same("use(2, 7)", 2, x.use(2, 7));
        CHECKS.same("assign(2, 5)", 3, x.assign(2, 5));
        CHECKS.same("compute(1, 0)", 1, x.compute(1, 0));
        CHECKS.same("use(1, 3)", 2, x.use(1, 3));
        CHECKS.same("assign(1, 0)", 3, x.assign(1, 0));
        int[] due = {21, 22, 17, 0, 10, 2};
        for (int i = 0; i < 3; i++) {
            CHECKS.same("instruction(2, " + i + ")", due[i], x.instruction(2, i));
            CHECKS.same("instruction(1, " + i + ")", due[3 + i], x.instruction(1, i));
        }
        CHECKS.same("size(0)", 0, x.size(0));
        CHECKS.same("size(1)", 3, x.size(1));
    }

    private static void appendingRefusals() {
        CodeMover x = Programs.of(2);
        CHECKS.refused("compute without expressions", x, INDEX, () -> x.compute(0, 0));
        CHECKS.refused("use without expressions", x, INDEX, () -> x.use(0, 0));
        x.addExpression(1);
        checkWrongNumbers(x);
        for (int i = 1; i <= 12; i++) {
            CHECKS.same("appending", i, i % 3 == 0 ? x.compute(1, 0)
                    : i % 3 == 1 ? x.use(1, 0) : x.assign(1, 5));
        }
        CHECKS.refused("a 13th compute", x, STATE, () -> x.compute(1, 0));
        CHECKS.refused("a 13th use", x, STATE, () -> x.use(1, 0));
        CHECKS.refused("a 13th assign", x, STATE, () -> x.assign(1, 0));
        checkWrongNumbers(x);
        CHECKS.refused("compute(1, 1) in a full block", x, INDEX, () -> x.compute(1, 1));
        CHECKS.refused("use(1, 1) in a full block", x, INDEX, () -> x.use(1, 1));
        CHECKS.refused("assign(1, 6) in a full block", x, INDEX, () -> x.assign(1, 6));
        CHECKS.same("size(1)", 12, x.size(1));
        CHECKS.same("size(0)", 0, x.size(0));
        CHECKS.same("room in another block", 1, x.compute(0, 0));
    }

    private static void checkWrongNumbers(CodeMover x) {
        for (int never : NEVER) {
            CHECKS.refused("compute of no block", x, INDEX, () -> x.compute(never, 0));
            CHECKS.refused("compute of nothing", x, INDEX, () -> x.compute(1, never));
            CHECKS.refused("use of no block", x, INDEX, () -> x.use(never, 0));
            CHECKS.refused("use of nothing", x, INDEX, () -> x.use(1, never));
            CHECKS.refused("assign of no block", x, INDEX, () -> x.assign(never, 0));
            CHECKS.refused("assign of nothing", x, INDEX, () -> x.assign(1, never));
            CHECKS.refused("drop of no block", x, INDEX, () -> x.drop(never));
            CHECKS.refused("size of no block", x, INDEX, () -> x.size(never));
            CHECKS.refused("instruction of no block", x, INDEX, () -> x.instruction(never, 0));
            CHECKS.refused("no instruction", x, INDEX, () -> x.instruction(1, never));
            CHECKS.refused("ends of no edge", x, INDEX, () -> x.ends(never));
        }
        CHECKS.refused("compute(2, 0)", x, INDEX, () -> x.compute(2, 0));
        CHECKS.refused("use(2, 0)", x, INDEX, () -> x.use(2, 0));
        CHECKS.refused("assign(2, 0)", x, INDEX, () -> x.assign(2, 0));
        CHECKS.refused("drop(2)", x, INDEX, () -> x.drop(2));
    }

    private static void dropping() {
        CodeMover x = Programs.of(2);
        x.addExpression(3);
        CHECKS.refused("drop of an empty block", x, STATE, () -> x.drop(1));
        x.compute(1, 0);
        x.assign(1, 1);
        x.use(1, 0);
        x.use(0, 0);
        CHECKS.same("drop(1)", 2, x.drop(1));
        CHECKS.same("late(1)", 0, x.late(1));
        CHECKS.same("drop(1)", 1, x.drop(1));
        CHECKS.same("late(1)", 1, x.late(1));
        CHECKS.same("size(1)", 1, x.size(1));
        CHECKS.refused("a dropped instruction", x, INDEX, () -> x.instruction(1, 1));
        CHECKS.same("instruction(1, 0)", 0, x.instruction(1, 0));
        CHECKS.same("drop(1)", 0, x.drop(1));
        CHECKS.refused("drop of a block that is empty again", x, STATE, () -> x.drop(1));
        CHECKS.same("size(0)", 1, x.size(0));
        CHECKS.same("assign(1, 4)", 1, x.assign(1, 4));
        CHECKS.same("instruction(1, 0)", 14, x.instruction(1, 0));
    }

    private static void reading() {
        CodeMover x = Programs.of(40);
        x.assign(39, 3);
        CHECKS.same("size(39)", 1, x.size(39));
        CHECKS.refused("size(40)", x, INDEX, () -> x.size(40));
        CHECKS.refused("instruction(40, 0)", x, INDEX, () -> x.instruction(40, 0));
        CHECKS.refused("instruction(39, 1)", x, INDEX, () -> x.instruction(39, 1));
        CHECKS.refused("instruction(38, 12)", x, INDEX, () -> x.instruction(38, 12));
        CHECKS.same("instruction(39, 0)", 11, x.instruction(39, 0));
        CHECKS.refused("ends(0)", x, INDEX, () -> x.ends(0));
        x.addEdge(39, 39);
        CHECKS.same("ends(0)", 1599, x.ends(0));
    }
}
