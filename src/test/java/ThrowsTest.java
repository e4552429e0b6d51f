import java.util.function.Supplier;

/**
 * Every Throws of the promises: the nearest wrong number on each side and the farthest ones, the
 * nearest right numbers, which exception comes first, and that a refused call changes nothing.
 */
final class ThrowsTest {
    private static final Class<IndexOutOfBoundsException> INDEX = IndexOutOfBoundsException.class;
    private static final Class<IllegalArgumentException> ARGUMENT = IllegalArgumentException.class;
    private static final Class<IllegalStateException> STATE = IllegalStateException.class;
    private static final int LEAST = Integer.MIN_VALUE;
    private static final int MOST = Integer.MAX_VALUE;
    /** Block 3 of the small program is full, and block 0 has none. */
    private static final int FULL = 3;

    private static final Checks CHECKS = new Checks("ThrowsTest");

    public static void main(String[] args) {
        addExpressionOfWrongVariables();
        addExpressionBehindEight();
        addExpressionWrongAndBehindEight();
        addBlockBehindForty();
        addEdgeOfNoBlock();
        addEdgeToBlockZero();
        addEdgeLikeAnother();
        addEdgeBehindTwo();
        addEdgeBehindEighty();
        addEdgeOrder();
        appendToNoBlock();
        appendNoExpression();
        assignNoVariable();
        appendToFullBlock();
        appendOrder();
        dropOfNoBlock();
        dropOfEmptyBlock();
        noSuchBlock();
        noSuchInstruction();
        noSuchEdge();
        moveBeyondForty();
        walkOfWrongMost();
        noSuchExpression();
        CHECKS.end();
    }

    /**
     * Four blocks, of which the last one is full and without exits, and the one before leads to it
     * and to itself; two expressions, something to move, and a walk with a miss.
     */
    private static CodeMover small() {
        CodeMover x = Programs.of(4, 1, 6);
        x.addEdge(0, 1);
        x.addEdge(0, 2);
        x.addEdge(1, 2);
        x.addEdge(2, 2);
        x.addEdge(2, 3);
        x.compute(1, 0);
        x.compute(2, 0);
        x.compute(2, 1);
        x.use(3, 1);
        x.assign(3, 2);
        x.use(3, 1);
        for (int i = 3; i < 12; i++) {
            x.compute(3, i % 2);
        }
        x.walk(4L, 7);
        return x;
    }

    /** 40 blocks, 8 expressions, a loop out of which moving would lead, and a walk through it. */
    private static CodeMover fortyBlocks() {
        CodeMover x = Programs.of(40, 1, 2, 4, 8, 16, 32, 63, 0);
        x.addEdge(0, 1);
        x.addEdge(1, 1);
        x.addEdge(1, 39);
        x.compute(1, 7);
        x.compute(39, 7);
        x.use(39, 0);
        x.walk(2L, 20);
        return x;
    }

    private static CodeMover eightyEdges() {
        CodeMover x = Programs.of(40, 1);
        for (int block = 0; block < 40; block++) {
            x.addEdge(block, 1 + block % 39);
            x.addEdge(block, 1 + (block + 1) % 39);
        }
        x.compute(0, 0);
        x.compute(20, 0);
        x.walk(5L, 30);
        return x;
    }

    private static void inSmall(String what, Class<? extends RuntimeException> due,
            Checks.Refusal call) {
        CHECKS.changesNothing(what, ThrowsTest::small, due, call);
    }

    private static void addExpressionOfWrongVariables() {
        for (int wrong : new int[] {-1, 64, 65, 127, 128, LEAST, MOST, 1 << 6, 1 << 31, -64}) {
            inSmall("addExpression(" + wrong + ")", ARGUMENT, x -> x.addExpression(wrong));
        }
        CHECKS.same("addExpression(0)", 2, small().addExpression(0));
        CHECKS.same("addExpression(63)", 2, small().addExpression(63));
    }

    private static void addExpressionBehindEight() {
        for (int right : new int[] {0, 1, 63}) {
            CHECKS.changesNothing("a ninth addExpression(" + right + ")", ThrowsTest::fortyBlocks,
                    STATE, x -> x.addExpression(right));
        }
        CHECKS.same("an eighth expression", 7,
                Programs.of(1, 1, 1, 1, 1, 1, 1, 1).addExpression(1));
    }

    private static void addExpressionWrongAndBehindEight() {
        for (int wrong : new int[] {-1, 64, LEAST, MOST}) {
            CHECKS.changesNothing("a ninth addExpression(" + wrong + ")", ThrowsTest::fortyBlocks,
                    ARGUMENT, x -> x.addExpression(wrong));
        }
    }

    private static void addBlockBehindForty() {
        CHECKS.changesNothing("a 41st block", ThrowsTest::fortyBlocks, STATE, CodeMover::addBlock);
        CHECKS.changesNothing("a 41st block", ThrowsTest::eightyEdges, STATE, CodeMover::addBlock);
        CHECKS.same("a 40th block", 39, Programs.of(39).addBlock());
        CodeMover moved = Programs.of(39, 1);
        moved.addEdge(0, 1);
        moved.addEdge(1, 1);
        moved.compute(1, 0);
        CHECKS.same("move()", 1, moved.move());
        CHECKS.refused("a 41st block behind move", moved, STATE, moved::addBlock);
    }

    private static void addEdgeOfNoBlock() {
        for (int wrong : new int[] {-1, 4, 5, 39, 40, LEAST, MOST}) {
            inSmall("addEdge(" + wrong + ", 1)", INDEX, x -> x.addEdge(wrong, 1));
            inSmall("addEdge(3, " + wrong + ")", INDEX, x -> x.addEdge(3, wrong));
            inSmall("addEdge twice " + wrong, INDEX, x -> x.addEdge(wrong, wrong));
        }
        CHECKS.changesNothing("addEdge(40, 1)", ThrowsTest::fortyBlocks, INDEX,
                x -> x.addEdge(40, 1));
        CHECKS.changesNothing("addEdge(1, 40)", ThrowsTest::fortyBlocks, INDEX,
                x -> x.addEdge(1, 40));
        CHECKS.same("addEdge(3, 3)", 5, small().addEdge(3, 3));
        CHECKS.same("addEdge(39, 39)", 3, fortyBlocks().addEdge(39, 39));
    }

    private static void addEdgeToBlockZero() {
        for (int from = 0; from < 4; from++) {
            int block = from;
            inSmall("addEdge(" + from + ", 0)", ARGUMENT, x -> x.addEdge(block, 0));
        }
        CHECKS.changesNothing("addEdge(0, 0) of a new object", CodeMover::new, ARGUMENT,
                x -> x.addEdge(0, 0));
        CHECKS.same("addEdge(3, 1)", 5, small().addEdge(3, 1));
    }

    private static void addEdgeLikeAnother() {
        inSmall("addEdge(1, 2) again", ARGUMENT, x -> x.addEdge(1, 2));
        inSmall("addEdge(2, 2) again", ARGUMENT, x -> x.addEdge(2, 2));
        inSmall("addEdge(2, 3) again", ARGUMENT, x -> x.addEdge(2, 3));
        CHECKS.same("addEdge(3, 2), the other way round", 5, small().addEdge(3, 2));
        CHECKS.same("addEdge(1, 3), the same start", 5, small().addEdge(1, 3));
        CHECKS.same("addEdge(3, 2), the same end", 5, small().addEdge(3, 2));
    }

    private static void addEdgeBehindTwo() {
        inSmall("addEdge(0, 3)", STATE, x -> x.addEdge(0, 3));
        inSmall("addEdge(2, 1)", STATE, x -> x.addEdge(2, 1));
        CHECKS.same("a second edge from 1", 5, small().addEdge(1, 1));
    }

    private static void addEdgeBehindEighty() {
        for (int from : new int[] {0, 17, 39}) {
            CHECKS.changesNothing("an 81st edge from " + from, ThrowsTest::eightyEdges, STATE,
                    x -> x.addEdge(from, 10));
        }
        CodeMover x = Programs.of(40);
        for (int block = 0; block < 39; block++) {
            x.addEdge(block, 38);
            x.addEdge(block, 39);
        }
        CHECKS.same("a 79th edge", 78, x.addEdge(39, 38));
        CHECKS.same("an 80th edge", 79, x.addEdge(39, 39));
        CHECKS.same("edgeCount()", 80, x.edgeCount());
    }

    /** No such block comes before block 0 and an edge like this, and these before two edges. */
    private static void addEdgeOrder() {
        for (int wrong : new int[] {-1, 4, LEAST, MOST}) {
            inSmall("from " + wrong + " to 0", INDEX, x -> x.addEdge(wrong, 0));
            inSmall("behind two, to " + wrong, INDEX, x -> x.addEdge(0, wrong));
        }
        inSmall("behind two, to 0", ARGUMENT, x -> x.addEdge(0, 0));
        inSmall("behind two, the first again", ARGUMENT, x -> x.addEdge(0, 1));
        inSmall("behind two, the second again", ARGUMENT, x -> x.addEdge(0, 2));
        Supplier<CodeMover> eighty = ThrowsTest::eightyEdges;
        CHECKS.changesNothing("behind 80, to 40", eighty, INDEX, x -> x.addEdge(0, 40));
        CHECKS.changesNothing("behind 80, from 40", eighty, INDEX, x -> x.addEdge(40, 0));
        CHECKS.changesNothing("behind 80, to 0", eighty, ARGUMENT, x -> x.addEdge(5, 0));
        CHECKS.changesNothing("behind 80, again", eighty, ARGUMENT, x -> x.addEdge(0, 1));
    }

    private static void appendToNoBlock() {
        for (int wrong : new int[] {-1, 4, 39, 40, LEAST, MOST}) {
            inSmall("compute(" + wrong + ", 0)", INDEX, x -> x.compute(wrong, 0));
            inSmall("use(" + wrong + ", 0)", INDEX, x -> x.use(wrong, 0));
            inSmall("assign(" + wrong + ", 0)", INDEX, x -> x.assign(wrong, 0));
        }
        CHECKS.changesNothing("compute(40, 0)", ThrowsTest::fortyBlocks, INDEX,
                x -> x.compute(40, 0));
        CHECKS.changesNothing("use(40, 0)", ThrowsTest::fortyBlocks, INDEX, x -> x.use(40, 0));
        CHECKS.changesNothing("assign(40, 0)", ThrowsTest::fortyBlocks, INDEX,
                x -> x.assign(40, 0));
    }

    private static void appendNoExpression() {
        for (int wrong : new int[] {-1, 2, 3, 7, 8, LEAST, MOST}) {
            inSmall("compute(1, " + wrong + ")", INDEX, x -> x.compute(1, wrong));
            inSmall("use(1, " + wrong + ")", INDEX, x -> x.use(1, wrong));
        }
        CHECKS.changesNothing("compute(0, 0) of a new object", CodeMover::new, INDEX,
                x -> x.compute(0, 0));
        CHECKS.changesNothing("use(0, 0) of a new object", CodeMover::new, INDEX,
                x -> x.use(0, 0));
        CHECKS.changesNothing("compute(0, 8)", ThrowsTest::fortyBlocks, INDEX,
                x -> x.compute(0, 8));
        CHECKS.changesNothing("use(0, 8)", ThrowsTest::fortyBlocks, INDEX, x -> x.use(0, 8));
        CHECKS.same("compute(1, 1)", 2, small().compute(1, 1));
        CHECKS.same("use(1, 1)", 2, small().use(1, 1));
        CHECKS.same("compute(0, 7)", 1, fortyBlocks().compute(0, 7));
        CHECKS.same("use(0, 7)", 1, fortyBlocks().use(0, 7));
    }

    private static void assignNoVariable() {
        for (int wrong : new int[] {-1, 6, 7, 63, LEAST, MOST}) {
            inSmall("assign(1, " + wrong + ")", INDEX, x -> x.assign(1, wrong));
        }
        CHECKS.same("assign(1, 0)", 2, small().assign(1, 0));
        CHECKS.same("assign(1, 5)", 2, small().assign(1, 5));
        CHECKS.same("assign(0, 5) of a new object", 1, new CodeMover().assign(0, 5));
    }

    private static void appendToFullBlock() {
        inSmall("a 13th compute", STATE, x -> x.compute(FULL, 0));
        inSmall("a 13th use", STATE, x -> x.use(FULL, 1));
        inSmall("a 13th assign", STATE, x -> x.assign(FULL, 5));
        CodeMover x = small();
        CHECKS.same("drop(3)", 11, x.drop(FULL));
        CHECKS.same("a 12th assign", 12, x.assign(FULL, 5));
        CHECKS.refused("a 13th assign", x, STATE, () -> x.assign(FULL, 5));
        CHECKS.same("drop(3)", 11, x.drop(FULL));
        CHECKS.same("a 12th use", 12, x.use(FULL, 1));
        CHECKS.same("drop(3)", 11, x.drop(FULL));
        CHECKS.same("a 12th compute", 12, x.compute(FULL, 1));
    }

    private static void appendOrder() {
        for (int wrong : new int[] {-1, 2, LEAST, MOST}) {
            inSmall("a 13th compute of " + wrong, INDEX, x -> x.compute(FULL, wrong));
            inSmall("a 13th use of " + wrong, INDEX, x -> x.use(FULL, wrong));
        }
        for (int wrong : new int[] {-1, 6, LEAST, MOST}) {
            inSmall("a 13th assign of " + wrong, INDEX, x -> x.assign(FULL, wrong));
        }
    }

    private static void dropOfNoBlock() {
        for (int wrong : new int[] {-1, 4, 40, LEAST, MOST}) {
            inSmall("drop(" + wrong + ")", INDEX, x -> x.drop(wrong));
        }
        CHECKS.changesNothing("drop(40)", ThrowsTest::fortyBlocks, INDEX, x -> x.drop(40));
    }

    private static void dropOfEmptyBlock() {
        inSmall("drop(0)", STATE, x -> x.drop(0));
        CHECKS.changesNothing("drop(0) of a new object", CodeMover::new, STATE, x -> x.drop(0));
        CHECKS.changesNothing("drop(38)", ThrowsTest::fortyBlocks, STATE, x -> x.drop(38));
        CodeMover x = small();
        CHECKS.same("drop(1) of one instruction", 0, x.drop(1));
        CHECKS.refused("drop(1) of none", x, STATE, () -> x.drop(1));
    }

    private static void noSuchBlock() {
        for (int wrong : new int[] {-1, 4, 5, 40, LEAST, MOST}) {
            noSuchBlock(ThrowsTest::small, wrong);
        }
        noSuchBlock(CodeMover::new, 1);
        noSuchBlock(CodeMover::new, -1);
        for (int wrong : new int[] {-1, 40}) {
            noSuchBlock(ThrowsTest::fortyBlocks, wrong);
        }
        CodeMover x = fortyBlocks();
        CHECKS.same("size(39)", 2, x.size(39));
        CHECKS.same("kept(39)", 255, x.kept(39));
        CHECKS.same("early(39)", 128, x.early(39));
        CHECKS.same("deletions(39)", 128, x.deletions(39));
    }

    private static void noSuchBlock(Supplier<CodeMover> source, int wrong) {
        String at = " of block " + wrong;
        CHECKS.changesNothing("size" + at, source, INDEX, x -> x.size(wrong));
        CHECKS.changesNothing("instruction" + at, source, INDEX, x -> x.instruction(wrong, 0));
        CHECKS.changesNothing("kept" + at, source, INDEX, x -> x.kept(wrong));
        CHECKS.changesNothing("early" + at, source, INDEX, x -> x.early(wrong));
        CHECKS.changesNothing("late" + at, source, INDEX, x -> x.late(wrong));
        CHECKS.changesNothing("needed" + at, source, INDEX, x -> x.needed(wrong, false));
        CHECKS.changesNothing("needed, end" + at, source, INDEX, x -> x.needed(wrong, true));
        CHECKS.changesNothing("there" + at, source, INDEX, x -> x.there(wrong, false));
        CHECKS.changesNothing("there, end" + at, source, INDEX, x -> x.there(wrong, true));
        CHECKS.changesNothing("delayedAt" + at, source, INDEX, x -> x.delayedAt(wrong));
        CHECKS.changesNothing("deletions" + at, source, INDEX, x -> x.deletions(wrong));
    }

    private static void noSuchInstruction() {
        for (int wrong : new int[] {-1, 12, 13, LEAST, MOST}) {
            inSmall("instruction(3, " + wrong + ")", INDEX, x -> x.instruction(3, wrong));
        }
        inSmall("instruction(0, 0)", INDEX, x -> x.instruction(0, 0));
        inSmall("instruction(0, -1)", INDEX, x -> x.instruction(0, -1));
        inSmall("instruction(1, 1)", INDEX, x -> x.instruction(1, 1));
        CodeMover x = small();
        CHECKS.same("instruction(1, 0)", 0, x.instruction(1, 0));
        CHECKS.same("instruction(3, 0)", 4, x.instruction(3, 0));
        CHECKS.same("instruction(3, 11)", 3, x.instruction(3, 11));
        x.drop(3);
        CHECKS.refused("a dropped instruction", x, INDEX, () -> x.instruction(3, 11));
        CHECKS.same("the one before", 0, x.instruction(3, 10));
    }

    private static void noSuchEdge() {
        for (int wrong : new int[] {-1, 5, 6, 80, LEAST, MOST}) {
            noSuchEdge(ThrowsTest::small, wrong);
        }
        noSuchEdge(CodeMover::new, 0);
        noSuchEdge(CodeMover::new, -1);
        noSuchEdge(ThrowsTest::eightyEdges, -1);
        noSuchEdge(ThrowsTest::eightyEdges, 80);
        CodeMover x = eightyEdges();
        CHECKS.same("ends(0)", 1, x.ends(0));
        CHECKS.same("ends(79)", 40 * 39 + 2, x.ends(79));
        CHECKS.same("earliest(79)", 0, x.earliest(79));
        CHECKS.same("delayedOn(79)", 0, x.delayedOn(79));
        CHECKS.same("insertions(79)", 0, x.insertions(79));
    }

    private static void noSuchEdge(Supplier<CodeMover> source, int wrong) {
        String at = " of edge " + wrong;
        CHECKS.changesNothing("ends" + at, source, INDEX, x -> x.ends(wrong));
        CHECKS.changesNothing("earliest" + at, source, INDEX, x -> x.earliest(wrong));
        CHECKS.changesNothing("delayedOn" + at, source, INDEX, x -> x.delayedOn(wrong));
        CHECKS.changesNothing("insertions" + at, source, INDEX, x -> x.insertions(wrong));
    }

    /** Two edges lead into the loop of block 3, from blocks that can go elsewhere. */
    private static CodeMover twoInsertionsAmong(int blocks) {
        CodeMover x = Programs.of(blocks, 1);
        x.addEdge(0, 1);
        x.addEdge(0, 2);
        x.addEdge(1, 3);
        x.addEdge(1, 4);
        x.addEdge(2, 3);
        x.addEdge(2, 4);
        x.addEdge(3, 3);
        x.addEdge(3, 5);
        x.compute(3, 0);
        x.compute(5, 0);
        x.walk(0L, 50);
        return x;
    }

    /** 41 and 42 blocks are refused, before a COMPUTE has become a USE; 40 are not. */
    private static void moveBeyondForty() {
        CodeMover fits = twoInsertionsAmong(38);
        CHECKS.same("move() to 40 blocks", 2, fits.move());
        CHECKS.same("blockCount()", 40, fits.blockCount());
        CHECKS.changesNothing("move() to 41 blocks", () -> twoInsertionsAmong(39), STATE,
                CodeMover::move);
        CHECKS.changesNothing("move() to 42 blocks", () -> twoInsertionsAmong(40), STATE,
                CodeMover::move);
        CHECKS.changesNothing("move() with one insertion", ThrowsTest::fortyBlocks, STATE,
                CodeMover::move);
        CodeMover none = Programs.of(40, 1);
        none.addEdge(0, 39);
        none.compute(0, 0);
        none.compute(39, 0);
        CHECKS.same("move() of 40 blocks without insertions", 0, none.move());
        CHECKS.same("instruction(39, 0)", 1, none.instruction(39, 0));
        CodeMover eighty = eightyEdges();
        CHECKS.same("move() of 80 edges without insertions", 0, eighty.move());
        CHECKS.same("instruction(20, 0)", 1, eighty.instruction(20, 0));
    }

    private static void walkOfWrongMost() {
        for (int wrong : new int[] {0, -1, 1001, 1002, LEAST, MOST}) {
            inSmall("walk(0, " + wrong + ")", ARGUMENT, x -> x.walk(0L, wrong));
            inSmall("walk(-1, " + wrong + ")", ARGUMENT, x -> x.walk(-1L, wrong));
            CHECKS.changesNothing("a first walk(0, " + wrong + ")", CodeMover::new, ARGUMENT,
                    x -> x.walk(0L, wrong));
        }
        CHECKS.same("walk(0, 1)", 1, small().walk(0L, 1));
        CHECKS.same("walk(0, 1000)", 1000, small().walk(0L, 1000));
    }

    private static void noSuchExpression() {
        for (int wrong : new int[] {-1, 2, 3, 7, 8, LEAST, MOST}) {
            inSmall("computed(" + wrong + ")", INDEX, x -> x.computed(wrong));
            inSmall("heldFor(" + wrong + ")", INDEX, x -> x.heldFor(wrong));
        }
        for (int wrong : new int[] {-1, 0, 1}) {
            CHECKS.changesNothing("computed(" + wrong + ") of a new object", CodeMover::new, INDEX,
                    x -> x.computed(wrong));
            CHECKS.changesNothing("heldFor(" + wrong + ") of a new object", CodeMover::new, INDEX,
                    x -> x.heldFor(wrong));
        }
        for (int wrong : new int[] {-1, 8}) {
            CHECKS.changesNothing("computed(" + wrong + ") of eight", ThrowsTest::fortyBlocks,
                    INDEX, x -> x.computed(wrong));
            CHECKS.changesNothing("heldFor(" + wrong + ") of eight", ThrowsTest::fortyBlocks,
                    INDEX, x -> x.heldFor(wrong));
        }
        CHECKS.same("computed(7) of eight", 3, fortyBlocks().computed(7));
        CHECKS.same("heldFor(7) of eight", 3, fortyBlocks().heldFor(7));
    }
}
