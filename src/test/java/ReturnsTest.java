import java.util.List;

/** Every Returns of the promises: its smallest and its largest answer, and those without a walk. */
final class ReturnsTest {
    private static final Checks CHECKS = new Checks("ReturnsTest");

    public static void main(String[] args) {
        newObject();
        newObjectsAreApart();
        numbersOfExpressions();
        numbersOfBlocks();
        numbersOfEdges();
        numbersOfInstructions();
        instructionsAsNumbers();
        endsAsNumbers();
        fullAndEmptySets();
        newBlocksOfMoves();
        blocksOfWalks();
        noWalk();
        shortestWalk();
        longestWalk();
        expressionsBehindTheWalk();
        latestWalkStays();
        digests();
        CHECKS.end();
    }

    private static final List<String> NEW = List.of(
            "digest() answers " + sum(0, 1, 0, 0, 0, -1), "blockCount() answers 1",
            "edgeCount() answers 0", "misses() answers 0", "lastBlock() answers -1",
            "size(0) answers 0",
            "instruction(0, 0) answers java.lang.IndexOutOfBoundsException",
            "kept(0) answers 0", "early(0) answers 0", "late(0) answers 0",
            "needed at the beginning(0) answers 0", "needed at the end(0) answers 0",
            "there at the beginning(0) answers 0", "there at the end(0) answers 0",
            "delayedAt(0) answers 0", "deletions(0) answers 0");

    /** Promise 1: all that a new object answers; everything behind block 0 is refused. */
    private static void newObject() {
        List<String> answers = Answers.of(CodeMover::new);
        for (int i = 0; i < answers.size(); i++) {
            String answer = answers.get(i);
            CHECKS.holds("new object, " + answer, i < NEW.size() ? answer.equals(NEW.get(i))
                    : answer.endsWith(" answers java.lang.IndexOutOfBoundsException"));
        }
        CHECKS.same("questions", 16 + 11 + 4 + 18, answers.size());
    }

    /** Promise 1: what one object is told changes no other one. */
    private static void newObjectsAreApart() {
        CodeMover one = new CodeMover();
        CodeMover other = new CodeMover();
        one.addExpression(5);
        one.addBlock();
        one.addEdge(0, 1);
        one.compute(1, 0);
        one.use(0, 0);
        one.walk(0L, 5);
        CHECKS.same("digest() of the other", sum(0, 1, 0, 0, 0, -1), other.digest());
        CHECKS.same("misses() of the other", 0, other.misses());
        CHECKS.same("addExpression of the other", 0, other.addExpression(2));
        other.compute(0, 0);
        CHECKS.same("early(0) of the one", 0, one.early(0));
        CHECKS.same("kept(0) of the one", 1, one.kept(0));
    }

    /** Promise 2: 0 to 7. */
    private static void numbersOfExpressions() {
        CodeMover x = new CodeMover();
        for (int e = 0; e < 8; e++) {
            CHECKS.same("addExpression", e, x.addExpression(e == 0 ? 63 : 0));
        }
    }

    /** Promises 3 and 9: 1 to 39, and 1 to 40. */
    private static void numbersOfBlocks() {
        CodeMover x = new CodeMover();
        for (int block = 1; block < 40; block++) {
            CHECKS.same("blockCount()", block, x.blockCount());
            CHECKS.same("addBlock()", block, x.addBlock());
        }
        CHECKS.same("blockCount()", 40, x.blockCount());
    }

    /** Promises 4 and 10: 0 to 79, and 0 to 80. */
    private static void numbersOfEdges() {
        CodeMover x = Programs.of(40);
        for (int edge = 0; edge < 80; edge++) {
            CHECKS.same("edgeCount()", edge, x.edgeCount());
            CHECKS.same("addEdge", edge, x.addEdge(edge % 40, edge < 40 ? 1 : 39));
        }
        CHECKS.same("edgeCount()", 80, x.edgeCount());
    }

    /** Promises 5 to 8 and 11: 1 to 12 up, 11 to 0 down. */
    private static void numbersOfInstructions() {
        CodeMover x = Programs.of(2, 1);
        for (int i = 1; i <= 12; i++) {
            CHECKS.same("size(1)", i - 1, x.size(1));
            int got = i % 3 == 0 ? x.compute(1, 0) : i % 3 == 1 ? x.use(1, 0) : x.assign(1, 0);
            CHECKS.same("appending", i, got);
        }
        for (int i = 11; i >= 0; i--) {
            CHECKS.same("drop(1)", i, x.drop(1));
            CHECKS.same("size(1)", i, x.size(1));
        }
        CHECKS.same("size(0)", 0, x.size(0));
    }

    /** Promise 12: 0 to 22. */
    private static void instructionsAsNumbers() {
        CodeMover x = Programs.of(3, 0, 0, 0, 0, 0, 0, 0, 0);
        for (int e = 0; e < 8; e++) {
            x.compute(0, e);
            x.use(1, e);
            CHECKS.same("a COMPUTE", 3 * e, x.instruction(0, e));
            CHECKS.same("a USE", 3 * e + 1, x.instruction(1, e));
        }
        for (int v = 0; v < 6; v++) {
            x.assign(2, v);
            CHECKS.same("an ASSIGN", 3 * v + 2, x.instruction(2, v));
        }
    }

    /** Promise 13: 1 to 1599. */
    private static void endsAsNumbers() {
        CodeMover x = Programs.of(40);
        int[][] pairs = {{0, 1}, {0, 39}, {1, 1}, {39, 1}, {39, 39}};
        for (int edge = 0; edge < pairs.length; edge++) {
            x.addEdge(pairs[edge][0], pairs[edge][1]);
            CHECKS.same("ends(" + edge + ")", 40 * pairs[edge][0] + pairs[edge][1], x.ends(edge));
        }
    }

    /** Promises 14 to 23: 0 and 255. */
    private static void fullAndEmptySets() {
        CodeMover x = Programs.of(4, 1, 1, 1, 1, 1, 1, 1, 1);
        x.addEdge(0, 1);
        x.addEdge(0, 2);
        x.addEdge(1, 1);
        for (int e = 0; e < 8; e++) {
            x.compute(1, e);
        }
        CHECKS.same("kept(1)", 255, x.kept(1));
        CHECKS.same("early(1)", 255, x.early(1));
        CHECKS.same("late(1)", 255, x.late(1));
        CHECKS.same("needed(1, false)", 255, x.needed(1, false));
        CHECKS.same("needed(1, true)", 255, x.needed(1, true));
        CHECKS.same("needed(0, true)", 0, x.needed(0, true));
        CHECKS.same("needed(2, false)", 0, x.needed(2, false));
        CHECKS.same("there(1, false)", 0, x.there(1, false));
        CHECKS.same("there(1, true)", 255, x.there(1, true));
        CHECKS.same("earliest(0)", 255, x.earliest(0));
        CHECKS.same("earliest(1)", 0, x.earliest(1));
        CHECKS.same("delayedOn(0)", 255, x.delayedOn(0));
        CHECKS.same("delayedOn(2)", 0, x.delayedOn(2));
        CHECKS.same("delayedAt(1)", 0, x.delayedAt(1));
        CHECKS.same("insertions(0)", 255, x.insertions(0));
        CHECKS.same("insertions(1)", 0, x.insertions(1));
        CHECKS.same("deletions(1)", 255, x.deletions(1));
        CHECKS.same("deletions(3)", 0, x.deletions(3));
        x.move();
        CHECKS.same("there(1, false) behind move", 255, x.there(1, false));
        x.assign(1, 0);
        CHECKS.same("kept(1)", 0, x.kept(1));
        CHECKS.same("late(1)", 0, x.late(1));
        CHECKS.same("early(1)", 0, x.early(1));
    }

    /** Promise 24: none, one, and 13 at once, which a program of 27 blocks has room for. */
    private static void newBlocksOfMoves() {
        CHECKS.same("move() of a new object", 0, new CodeMover().move());
        CodeMover one = Programs.of(2, 0);
        one.addEdge(0, 1);
        one.addEdge(1, 1);
        one.compute(1, 0);
        CHECKS.same("move() out of a loop", 1, one.move());
        CHECKS.same("move() again", 0, one.move());
        CodeMover many = loops(13);
        CHECKS.same("move() out of 13 loops", 13, many.move());
        CHECKS.same("blockCount()", 40, many.blockCount());
        CHECKS.same("edgeCount()", 52, many.edgeCount());
        for (int i = 0; i < 13; i++) {
            CHECKS.same("instruction of the new block", 0, many.instruction(27 + i, 0));
            CHECKS.same("ends of the edge", 40 * (2 * i) + 27 + i, many.ends(3 * i));
            CHECKS.same("ends of the new edge", 40 * (27 + i) + 2 * i + 1, many.ends(39 + i));
        }
    }

    /** Blocks 1, 3, 5 .. lead to themselves and compute; block 2, 4, 6 .. assign before. */
    private static CodeMover loops(int count) {
        CodeMover x = Programs.of(2 * count + 1, 1);
        for (int i = 0; i < count; i++) {
            x.addEdge(2 * i, 2 * i + 1);
            x.addEdge(2 * i + 1, 2 * i + 1);
            x.addEdge(2 * i + 1, 2 * i + 2);
            x.assign(2 * i, 0);
            x.compute(2 * i + 1, 0);
        }
        return x;
    }

    /** Promise 25: 1 to 1000. */
    private static void blocksOfWalks() {
        CHECKS.same("walk of a new object", 1, new CodeMover().walk(0L, 1000));
        CodeMover x = loops(13);
        CHECKS.same("walk by all second exits", 27, x.walk(-1L, 1000));
        CHECKS.same("walk by the first ones", 1000, x.walk(0L, 1000));
        CHECKS.same("walk of one block", 1, x.walk(0L, 1));
        CHECKS.same("walk of as many as there are", 27, x.walk(-1L, 27));
        CHECKS.same("walk of one less", 26, x.walk(-1L, 26));
    }

    /** Promises 26 to 29: "0 if there was none", "-1 if there was none". */
    private static void noWalk() {
        CodeMover x = loops(13);
        x.use(1, 0);
        x.move();
        CHECKS.same("computed(0)", 0, x.computed(0));
        CHECKS.same("heldFor(0)", 0, x.heldFor(0));
        CHECKS.same("misses()", 0, x.misses());
        CHECKS.same("lastBlock()", -1, x.lastBlock());
        CHECKS.refused("walk(0, 0)", x, IllegalArgumentException.class, () -> x.walk(0L, 0));
        CHECKS.same("lastBlock() behind a refused walk", -1, x.lastBlock());
    }

    /** Promises 26 to 29 behind a walk through nothing. */
    private static void shortestWalk() {
        CodeMover x = Programs.of(1, 0);
        x.walk(0L, 1);
        CHECKS.same("computed(0)", 0, x.computed(0));
        CHECKS.same("heldFor(0)", 0, x.heldFor(0));
        CHECKS.same("misses()", 0, x.misses());
        CHECKS.same("lastBlock()", 0, x.lastBlock());
    }

    /** Promises 26 to 29 behind 1000 blocks, all of them full but the first one. */
    private static void longestWalk() {
        CodeMover x = Programs.of(40, 1, 2, 0);
        x.addEdge(0, 39);
        x.addEdge(39, 39);
        for (int i = 0; i < 12; i++) {
            x.compute(39, 0);
            x.use(0, 1);
        }
        x.walk(0L, 1000);
        CHECKS.same("computed(0)", 12 * 999, x.computed(0));
        CHECKS.same("heldFor(0)", 12 * 999 - 1, x.heldFor(0));
        CHECKS.same("misses()", 12, x.misses());
        CHECKS.same("lastBlock()", 39, x.lastBlock());
        for (int i = 0; i < 12; i++) {
            x.drop(39);
        }
        for (int i = 0; i < 12; i++) {
            x.use(39, 2);
        }
        x.walk(0L, 1000);
        CHECKS.same("misses() of all", 12000, x.misses());
        CHECKS.same("computed(0)", 0, x.computed(0));
        CHECKS.same("heldFor(0)", 0, x.heldFor(0));
        x.drop(0);
        x.compute(0, 2);
        x.walk(0L, 1000);
        CHECKS.same("misses() of the first block", 11, x.misses());
        CHECKS.same("heldFor(2)", 12 * 999, x.heldFor(2));
    }

    /** Promises 26 and 29: an expression that came behind the walk. */
    private static void expressionsBehindTheWalk() {
        CodeMover x = Programs.of(1, 0);
        x.compute(0, 0);
        x.compute(0, 0);
        x.walk(0L, 1);
        x.addExpression(0);
        CHECKS.same("computed(0)", 2, x.computed(0));
        CHECKS.same("heldFor(0)", 1, x.heldFor(0));
        CHECKS.same("computed(1)", 0, x.computed(1));
        CHECKS.same("heldFor(1)", 0, x.heldFor(1));
    }

    /** Promises 26 to 30: no change of the program changes what the latest walk had. */
    private static void latestWalkStays() {
        CodeMover x = Programs.of(3, 1);
        x.addEdge(0, 1);
        x.addEdge(1, 1);
        x.use(0, 0);
        x.compute(1, 0);
        x.walk(0L, 10);
        x.drop(0);
        x.move();
        x.compute(0, 0);
        x.assign(1, 0);
        x.addBlock();
        x.addEdge(1, 2);
        CHECKS.same("computed(0)", 9, x.computed(0));
        CHECKS.same("heldFor(0)", 8, x.heldFor(0));
        CHECKS.same("misses()", 1, x.misses());
        CHECKS.same("lastBlock()", 1, x.lastBlock());
        x.walk(1L, 10);
        CHECKS.same("computed(0) of another walk", 2, x.computed(0));
        CHECKS.same("lastBlock() of another walk", 2, x.lastBlock());
    }

    /** Promise 30: 83 first, the last block last, -1 before the first walk. */
    private static void digests() {
        CodeMover x = new CodeMover();
        CHECKS.same("digest()", sum(0, 1, 0, 0, 0, -1), x.digest());
        x.walk(0L, 1);
        CHECKS.same("digest() behind a walk", sum(0, 1, 0, 0, 0, 0), x.digest());
        x.addExpression(0);
        x.addExpression(63);
        x.use(0, 1);
        x.walk(0L, 1);
        CHECKS.same("digest() behind a miss", sum(2, 0, 63, 1, 1, 4, 0, 1, 0), x.digest());
        x.addBlock();
        x.addEdge(1, 1);
        x.compute(1, 1);
        x.addEdge(0, 1);
        x.drop(0);
        CHECKS.same("digest() before move", sum(2, 0, 63, 2, 0, 1, 3, 2, 41, 1, 1, 0), x.digest());
        x.move();
        CHECKS.same("digest() behind move",
                sum(2, 0, 63, 3, 0, 1, 4, 1, 3, 3, 41, 2, 81, 1, 0), x.digest());
        x.walk(0L, 2);
        CHECKS.same("digest() in the new block",
                sum(2, 0, 63, 3, 0, 1, 4, 1, 3, 3, 41, 2, 81, 0, 2), x.digest());
    }

    private static long sum(long... numbers) {
        long d = 83;
        for (long x : numbers) {
            d = d * 31 + x;
        }
        return d;
    }
}
