import java.math.BigInteger;

/** The sentences of the Description that name a boundary case, a method for each of them. */
final class DescriptionTest {
    private static final Class<IndexOutOfBoundsException> INDEX = IndexOutOfBoundsException.class;
    private static final Class<IllegalArgumentException> ARGUMENT = IllegalArgumentException.class;
    private static final Class<IllegalStateException> STATE = IllegalStateException.class;
    private static final Checks CHECKS = new Checks("DescriptionTest");

    public static void main(String[] args) {
        sixVariables();
        eightExpressions();
        expressionOfNoVariable();
        fortyBlocks();
        blockZeroIsThere();
        twelveInstructions();
        twelfthInstructionCounts();
        eightyEdges();
        edgeToTheSameBlock();
        noEdgeToBlockZero();
        noTwoEdgesAlike();
        edgesThatMovingLedElsewhere();
        twoExitsInOrder();
        setsAsSums();
        neededBehindNoExit();
        neededBehindEndlessLoops();
        thereAtBlockZero();
        thereWhereNoEdgeLeads();
        thereInLoopsWithoutWayIn();
        delayedAtBlockZero();
        delayedWhereNoEdgeLeads();
        delayedInLoopsWithoutWayIn();
        earliestNeedsEachCondition();
        useCountsForNoSet();
        movingWhereNoEdgeLeads();
        movingInFullBlocks();
        movingByTheProgramBefore();
        movingNewBlocksInOrder();
        walkEndsWithoutExits();
        walkEndsAtMost();
        walkOfAllBits();
        walkBitsComeAgain();
        walkBitsFromTheFirstAgain();
        walkTakesBitsOfTwoExitsAlone();
        heldFromComputeToAssign();
        missesOfTheFirstUse();
        digestWrapsAround();
        CHECKS.end();
    }

    /** "There are 6 variables, 0 to 5". */
    private static void sixVariables() {
        for (int variable = 0; variable < 6; variable++) {
            int v = variable;
            CodeMover x = Programs.of(1, 63, 1 << v, 63 - (1 << v), 0);
            CHECKS.same("assign(0, " + v + ")", 1, x.assign(0, v));
            CHECKS.same("kept(0) behind " + v, 4 + 8, x.kept(0));
            CHECKS.same("instruction(0, 0)", 3 * v + 2, x.instruction(0, 0));
        }
        CodeMover x = new CodeMover();
        CHECKS.refused("assign(0, 6)", x, INDEX, () -> x.assign(0, 6));
        CHECKS.refused("assign(0, -1)", x, INDEX, () -> x.assign(0, -1));
    }

    /** "at most 8 expressions, numbered from 0 in the order of their creation". */
    private static void eightExpressions() {
        CodeMover x = new CodeMover();
        for (int e = 0; e < 8; e++) {
            CHECKS.refused("compute(0, " + e + ") too soon", x, INDEX, () -> x.compute(0, x.size(0)));
            CHECKS.same("addExpression", e, x.addExpression(e % 2 == 0 ? 1 : 2));
            CHECKS.same("compute(0, " + e + ")", e + 1, x.compute(0, e));
        }
        CHECKS.refused("a ninth expression", x, STATE, () -> x.addExpression(1));
        x.assign(0, 0);
        CHECKS.same("kept(0)", 2 + 8 + 32 + 128, x.kept(0));
    }

    /** "an expression depends on some variables (perhaps none)". */
    private static void expressionOfNoVariable() {
        CodeMover x = Programs.of(2, 0);
        x.addEdge(0, 1);
        x.compute(0, 0);
        for (int i = 0; i < 12; i++) {
            x.assign(1, i % 6);
        }
        CHECKS.same("kept(1)", 1, x.kept(1));
        CHECKS.same("there(1, true)", 1, x.there(1, true));
        x.walk(0L, 9);
        CHECKS.same("heldFor(0)", 12, x.heldFor(0));
        x.drop(1);
        x.use(1, 0);
        x.walk(0L, 9);
        CHECKS.same("misses()", 0, x.misses());
    }

    /** "at most 40 blocks, numbered from 0". */
    private static void fortyBlocks() {
        CodeMover x = new CodeMover();
        for (int block = 1; block < 40; block++) {
            CHECKS.refused("size too soon", x, INDEX, () -> x.size(x.blockCount()));
            CHECKS.same("addBlock()", block, x.addBlock());
            CHECKS.same("addEdge", block - 1, x.addEdge(block - 1, block));
        }
        CHECKS.refused("a 41st block", x, STATE, x::addBlock);
        CHECKS.same("walk through all", 40, x.walk(0L, 1000));
        CHECKS.same("lastBlock()", 39, x.lastBlock());
    }

    /** "block 0 is there from the beginning on, and is where the program begins". */
    private static void blockZeroIsThere() {
        CodeMover x = new CodeMover();
        CHECKS.same("blockCount()", 1, x.blockCount());
        CHECKS.same("assign(0, 0)", 1, x.assign(0, 0));
        CHECKS.same("addBlock()", 1, x.addBlock());
        x.addEdge(1, 1);
        CHECKS.same("walk(0, 5)", 1, x.walk(0L, 5));
        CHECKS.same("lastBlock()", 0, x.lastBlock());
    }

    /** "A block has at most 12 instructions", of each kind, and in each block. */
    private static void twelveInstructions() {
        CodeMover x = Programs.of(40, 1);
        for (int i = 1; i <= 12; i++) {
            CHECKS.same("compute(0, 0)", i, x.compute(0, 0));
            CHECKS.same("use(1, 0)", i, x.use(1, 0));
            CHECKS.same("assign(39, 5)", i, x.assign(39, 5));
        }
        for (int block : new int[] {0, 1, 39}) {
            CHECKS.refused("a 13th compute", x, STATE, () -> x.compute(block, 0));
            CHECKS.refused("a 13th use", x, STATE, () -> x.use(block, 0));
            CHECKS.refused("a 13th assign", x, STATE, () -> x.assign(block, 0));
            CHECKS.same("size", 12, x.size(block));
        }
        CHECKS.same("size(2) behind a full block", 0, x.size(2));
        CHECKS.same("instruction(0, 11)", 0, x.instruction(0, 11));
        CHECKS.same("instruction(1, 0)", 1, x.instruction(1, 0));
        CHECKS.same("instruction(39, 11)", 17, x.instruction(39, 11));
    }

    private static void twelfthInstructionCounts() {
        CodeMover x = Programs.of(1, 1, 2);
        for (int i = 0; i < 11; i++) {
            x.compute(0, 0);
        }
        x.assign(0, 0);
        CHECKS.same("kept(0) with an ASSIGN at the end", 2, x.kept(0));
        CHECKS.same("late(0) with an ASSIGN at the end", 0, x.late(0));
        CHECKS.same("early(0)", 1, x.early(0));
        x.walk(0L, 1);
        CHECKS.same("heldFor(0)", 11, x.heldFor(0));
        x.drop(0);
        x.compute(0, 1);
        CHECKS.same("early(0) with a COMPUTE at the end", 3, x.early(0));
        CHECKS.same("late(0) with a COMPUTE at the end", 3, x.late(0));
        x.drop(0);
        x.use(0, 1);
        x.walk(0L, 1);
        CHECKS.same("misses() of a USE at the end", 1, x.misses());
        CHECKS.same("computed(0)", 11, x.computed(0));
    }

    /** "There are at most 80 edges, numbered from 0". */
    private static void eightyEdges() {
        CodeMover x = Programs.of(40);
        for (int edge = 0; edge < 80; edge++) {
            int from = 39 - edge / 2;
            int to = edge % 2 == 0 ? 39 : 1;
            CHECKS.refused("ends too soon", x, INDEX, () -> x.ends(x.edgeCount()));
            CHECKS.same("addEdge", edge, x.addEdge(from, to));
        }
        CHECKS.same("edgeCount()", 80, x.edgeCount());
        CHECKS.refused("an 81st edge", x, STATE, () -> x.addEdge(0, 2));
        CHECKS.same("ends(0)", 40 * 39 + 39, x.ends(0));
        CHECKS.same("ends(78)", 39, x.ends(78));
        CHECKS.same("ends(79)", 1, x.ends(79));
    }

    /** "an edge leads from a block to another block or to the same one". */
    private static void edgeToTheSameBlock() {
        CodeMover x = Programs.of(40);
        CHECKS.same("addEdge(1, 1)", 0, x.addEdge(1, 1));
        CHECKS.same("addEdge(39, 39)", 1, x.addEdge(39, 39));
        CHECKS.same("ends(0)", 41, x.ends(0));
        CHECKS.same("ends(1)", 1599, x.ends(1));
        x.addEdge(0, 39);
        CHECKS.same("walk(-1, 1000)", 1000, x.walk(-1L, 1000));
    }

    /** "but not to block 0". */
    private static void noEdgeToBlockZero() {
        CodeMover x = Programs.of(40);
        for (int from : new int[] {0, 1, 39}) {
            CHECKS.refused("addEdge(" + from + ", 0)", x, ARGUMENT, () -> x.addEdge(from, 0));
        }
        CHECKS.same("edgeCount()", 0, x.edgeCount());
    }

    /** "no two edges lead from the same block to the same one". */
    private static void noTwoEdgesAlike() {
        CodeMover x = Programs.of(4);
        CHECKS.same("addEdge(1, 2)", 0, x.addEdge(1, 2));
        CHECKS.refused("addEdge(1, 2) again", x, ARGUMENT, () -> x.addEdge(1, 2));
        CHECKS.same("addEdge(2, 1)", 1, x.addEdge(2, 1));
        CHECKS.same("addEdge(3, 2)", 2, x.addEdge(3, 2));
        CHECKS.same("addEdge(1, 3)", 3, x.addEdge(1, 3));
        CHECKS.refused("addEdge(1, 2) again", x, ARGUMENT, () -> x.addEdge(1, 2));
        CHECKS.refused("addEdge(1, 3) again", x, ARGUMENT, () -> x.addEdge(1, 3));
    }

    private static void edgesThatMovingLedElsewhere() {
        CodeMover x = Programs.of(2, 1);
        x.addEdge(0, 1);
        x.addEdge(1, 1);
        x.compute(1, 0);
        CHECKS.same("move()", 1, x.move());
        CHECKS.refused("an edge like the old one now", x, ARGUMENT, () -> x.addEdge(0, 2));
        CHECKS.refused("an edge like the new one", x, ARGUMENT, () -> x.addEdge(2, 1));
        CHECKS.same("an edge as the old one was", 3, x.addEdge(0, 1));
        x.addBlock();
        CHECKS.refused("a third edge", x, STATE, () -> x.addEdge(0, 3));
    }

    /** "they are its first and its second exit, in the order of their creation". */
    private static void twoExitsInOrder() {
        CodeMover x = Programs.of(4);
        x.addEdge(0, 3);
        x.addEdge(3, 1);
        x.addEdge(0, 2);
        CHECKS.refused("a third exit", x, STATE, () -> x.addEdge(0, 1));
        x.walk(0L, 2);
        CHECKS.same("the first exit", 3, x.lastBlock());
        x.walk(1L, 2);
        CHECKS.same("the second exit", 2, x.lastBlock());
    }

    /** "Sets of expressions are told as the sum of the powers 2^e of their expressions e". */
    private static void setsAsSums() {
        CHECKS.same("kept(0) without expressions", 0, new CodeMover().kept(0));
        CodeMover x = new CodeMover();
        for (int e = 0; e < 8; e++) {
            x.addExpression(63);
            CHECKS.same("kept(0)", (2 << e) - 1, x.kept(0));
            x.compute(0, e);
            CHECKS.same("early(0)", (2 << e) - 1, x.early(0));
        }
        x.assign(0, 3);
        CHECKS.same("kept(0)", 0, x.kept(0));
        CHECKS.same("late(0)", 0, x.late(0));
        x.compute(0, 7);
        CHECKS.same("late(0)", 128, x.late(0));
    }

    /** "needed at the end of b: the empty set if no edge leads from b". */
    private static void neededBehindNoExit() {
        CodeMover x = Programs.of(2, 1, 2);
        x.compute(0, 0);
        x.compute(1, 1);
        CHECKS.same("needed(0, true)", 0, x.needed(0, true));
        CHECKS.same("needed(0, false)", 1, x.needed(0, false));
        x.addEdge(0, 1);
        CHECKS.same("needed(0, true) with an edge", 2, x.needed(0, true));
        CHECKS.same("needed(1, true)", 0, x.needed(1, true));
        CHECKS.same("needed(0, false) with an edge", 3, x.needed(0, false));
    }

    /** "the greatest ones": behind a loop that never ends nothing speaks against a need. */
    private static void neededBehindEndlessLoops() {
        CodeMover x = Programs.of(3, 1, 2);
        x.addEdge(1, 1);
        CHECKS.same("needed(1, false)", 3, x.needed(1, false));
        x.assign(1, 1);
        CHECKS.same("needed(1, false) behind v1", 1, x.needed(1, false));
        CHECKS.same("needed(1, true) behind v1", 1, x.needed(1, true));
        x.addEdge(1, 2);
        CHECKS.same("needed(1, true) with a way out", 0, x.needed(1, true));
    }

    /** "there at the beginning of b: the empty set for block 0". */
    private static void thereAtBlockZero() {
        CodeMover x = Programs.of(2, 0);
        x.addEdge(0, 1);
        x.addEdge(1, 1);
        CHECKS.same("there(0, false)", 0, x.there(0, false));
        CHECKS.same("there(1, false)", 0, x.there(1, false));
        x.compute(0, 0);
        CHECKS.same("there(0, false)", 0, x.there(0, false));
        CHECKS.same("there(0, true)", 1, x.there(0, true));
        CHECKS.same("there(1, false)", 1, x.there(1, false));
    }

    /** "and for a block to which no edge leads". */
    private static void thereWhereNoEdgeLeads() {
        CodeMover x = Programs.of(3, 1, 2);
        x.addEdge(2, 1);
        CHECKS.same("there(2, false)", 0, x.there(2, false));
        CHECKS.same("there(2, true)", 0, x.there(2, true));
        CHECKS.same("there(1, false)", 0, x.there(1, false));
        x.compute(2, 1);
        CHECKS.same("there(2, true)", 2, x.there(2, true));
        CHECKS.same("there(1, false)", 2, x.there(1, false));
        x.addEdge(0, 1);
        CHECKS.same("there(1, false) from block 0 too", 0, x.there(1, false));
    }

    private static void thereInLoopsWithoutWayIn() {
        CodeMover x = Programs.of(3, 1, 2);
        x.addEdge(1, 2);
        x.addEdge(2, 1);
        CHECKS.same("there(1, false)", 3, x.there(1, false));
        x.assign(2, 0);
        CHECKS.same("there(2, false)", 2, x.there(2, false));
        x.addEdge(0, 2);
        CHECKS.same("there(2, false) with a way in", 0, x.there(2, false));
    }

    /** "delayed at the beginning of c: for block 0, those that are needed at its beginning". */
    private static void delayedAtBlockZero() {
        CodeMover x = Programs.of(2, 1, 2, 4);
        CHECKS.same("delayedAt(0) of nothing", 0, x.delayedAt(0));
        x.compute(0, 1);
        x.addEdge(0, 1);
        x.compute(1, 2);
        x.compute(1, 0);
        x.assign(0, 0);
        CHECKS.same("delayedAt(0)", 2 + 4, x.delayedAt(0));
        CHECKS.same("needed(0, false)", 2 + 4, x.needed(0, false));
        CHECKS.same("deletions(0)", 0, x.deletions(0));
        CHECKS.same("delayedOn(0)", 1 + 4, x.delayedOn(0));
    }

    /** "for another block to which no edge leads, the empty set". */
    private static void delayedWhereNoEdgeLeads() {
        CodeMover x = Programs.of(3, 1);
        x.compute(1, 0);
        x.compute(0, 0);
        CHECKS.same("needed(1, false)", 1, x.needed(1, false));
        CHECKS.same("delayedAt(1)", 0, x.delayedAt(1));
        CHECKS.same("deletions(1)", 1, x.deletions(1));
        x.addEdge(2, 1);
        CHECKS.same("delayedAt(2)", 0, x.delayedAt(2));
        CHECKS.same("delayedOn(0)", 0, x.delayedOn(0));
        x.assign(2, 0);
        CHECKS.same("delayedOn(0) behind an ASSIGN", 1, x.delayedOn(0));
        CHECKS.same("delayedAt(1) behind an ASSIGN", 1, x.delayedAt(1));
        CHECKS.same("deletions(1) behind an ASSIGN", 0, x.deletions(1));
    }

    private static void delayedInLoopsWithoutWayIn() {
        CodeMover x = Programs.of(3, 1, 2);
        x.addEdge(1, 2);
        x.addEdge(2, 1);
        CHECKS.same("delayedAt(1)", 3, x.delayedAt(1));
        CHECKS.same("delayedOn(1)", 3, x.delayedOn(1));
        CHECKS.same("insertions(1)", 0, x.insertions(1));
        x.compute(2, 1);
        CHECKS.same("delayedAt(1)", 1, x.delayedAt(1));
        CHECKS.same("delayedAt(2)", 1, x.delayedAt(2));
        CHECKS.same("deletions(2)", 2, x.deletions(2));
        CHECKS.same("insertions(0)", 0, x.insertions(0));
    }

    /** Each condition of the earliest place by itself makes the difference. */
    private static void earliestNeedsEachCondition() {
        CodeMover x = Programs.of(3, 1);
        x.addEdge(0, 1);
        CHECKS.same("earliest(0) without a need", 0, x.earliest(0));
        x.compute(1, 0);
        CHECKS.same("earliest(0), kept and needed before", 0, x.earliest(0));
        x.addEdge(0, 2);
        CHECKS.same("earliest(0), kept and not needed before", 1, x.earliest(0));
        CHECKS.same("earliest(1)", 0, x.earliest(1));
        x.compute(2, 0);
        CHECKS.same("earliest(0), kept and needed on both ways", 0, x.earliest(0));
        x.assign(0, 0);
        CHECKS.same("earliest(0), not kept and needed before", 1, x.earliest(0));
        CHECKS.same("earliest(1), not kept and needed before", 1, x.earliest(1));
        x.compute(0, 0);
        CHECKS.same("earliest(0), there before", 0, x.earliest(0));
    }

    /** "(A USE counts for none of these sets.)" */
    private static void useCountsForNoSet() {
        CodeMover x = Programs.of(3, 1);
        x.addEdge(0, 1);
        x.addEdge(1, 1);
        x.addEdge(1, 2);
        for (int block = 0; block < 3; block++) {
            x.use(block, 0);
        }
        for (int block = 0; block < 3; block++) {
            CHECKS.same("kept", 1, x.kept(block));
            CHECKS.same("early", 0, x.early(block));
            CHECKS.same("late", 0, x.late(block));
            CHECKS.same("needed, beginning", 0, x.needed(block, false));
            CHECKS.same("needed, end", 0, x.needed(block, true));
            CHECKS.same("there, beginning", 0, x.there(block, false));
            CHECKS.same("there, end", 0, x.there(block, true));
            CHECKS.same("delayedAt", 0, x.delayedAt(block));
            CHECKS.same("deletions", 0, x.deletions(block));
            CHECKS.same("earliest", 0, x.earliest(block));
            CHECKS.same("delayedOn", 0, x.delayedOn(block));
            CHECKS.same("insertions", 0, x.insertions(block));
        }
        CHECKS.same("move()", 0, x.move());
    }

    /** By the words of the document a block to which no edge leads loses its COMPUTEs. */
    private static void movingWhereNoEdgeLeads() {
        CodeMover x = Programs.of(3, 1, 2);
        x.compute(2, 0);
        x.compute(2, 1);
        x.compute(2, 0);
        CHECKS.same("deletions(2)", 3, x.deletions(2));
        CHECKS.same("move()", 0, x.move());
        CHECKS.same("instruction(2, 0)", 1, x.instruction(2, 0));
        CHECKS.same("instruction(2, 1)", 4, x.instruction(2, 1));
        CHECKS.same("instruction(2, 2)", 0, x.instruction(2, 2));
        CHECKS.same("deletions(2) behind move", 1, x.deletions(2));
    }

    /** The first block and the last one of 40 are full, and so is the list of expressions. */
    private static void movingInFullBlocks() {
        CodeMover x = Programs.of(40, 1, 2, 0, 0, 0, 0, 0, 4);
        x.addEdge(0, 39);
        for (int i = 0; i < 12; i++) {
            x.compute(0, i == 11 ? 7 : 1);
            x.compute(39, i == 11 ? 7 : 1);
        }
        CHECKS.same("deletions(39)", 130, x.deletions(39));
        CHECKS.same("move()", 0, x.move());
        CHECKS.same("size(39)", 12, x.size(39));
        CHECKS.same("instruction(39, 0)", 4, x.instruction(39, 0));
        CHECKS.same("instruction(39, 1)", 3, x.instruction(39, 1));
        CHECKS.same("instruction(39, 11)", 22, x.instruction(39, 11));
        CHECKS.same("instruction(0, 11)", 21, x.instruction(0, 11));
    }

    /** "All insertions and deletions are those of the program before." */
    private static void movingByTheProgramBefore() {
        CodeMover x = Programs.of(4, 1);
        x.addEdge(0, 1);
        x.addEdge(1, 2);
        x.addEdge(2, 3);
        x.compute(0, 0);
        x.compute(1, 0);
        x.compute(2, 0);
        x.compute(3, 0);
        // Were block 2 looked at behind the change of block 1, block 1 would not be late any more.
        CHECKS.same("move()", 0, x.move());
        for (int block = 1; block < 4; block++) {
            CHECKS.same("instruction(" + block + ", 0)", 1, x.instruction(block, 0));
        }
        CHECKS.same("instruction(0, 0)", 0, x.instruction(0, 0));
    }

    /** "in the order of their numbers, a new block with the next number". */
    private static void movingNewBlocksInOrder() {
        CodeMover x = Programs.of(6, 1, 2, 4);
        int[][] pairs = {{2, 4}, {2, 3}, {1, 4}, {1, 3}, {3, 3}, {3, 5}, {0, 2}, {0, 1}};
        for (int[] pair : pairs) {
            x.addEdge(pair[0], pair[1]);
        }
        x.compute(3, 2);
        x.compute(3, 0);
        CHECKS.same("insertions(1)", 5, x.insertions(1));
        CHECKS.same("insertions(3)", 5, x.insertions(3));
        CHECKS.same("move()", 2, x.move());
        CHECKS.same("ends(1)", 40 * 2 + 6, x.ends(1));
        CHECKS.same("ends(8)", 40 * 6 + 3, x.ends(8));
        CHECKS.same("ends(3)", 40 + 7, x.ends(3));
        CHECKS.same("ends(9)", 40 * 7 + 3, x.ends(9));
        for (int block = 6; block < 8; block++) {
            CHECKS.same("size", 2, x.size(block));
            CHECKS.same("the lower one first", 0, x.instruction(block, 0));
            CHECKS.same("the higher one second", 6, x.instruction(block, 1));
        }
        CHECKS.same("blockCount()", 8, x.blockCount());
        CHECKS.same("edgeCount()", 10, x.edgeCount());
    }

    /** "A block without exits ends it". */
    private static void walkEndsWithoutExits() {
        CodeMover x = Programs.of(2, 1);
        CHECKS.same("walk(0, 1000)", 1, x.walk(0L, 1000));
        CHECKS.same("lastBlock()", 0, x.lastBlock());
        x.addEdge(0, 1);
        x.compute(1, 0);
        CHECKS.same("walk(0, 1000)", 2, x.walk(0L, 1000));
        CHECKS.same("lastBlock()", 1, x.lastBlock());
        CHECKS.same("computed(0)", 1, x.computed(0));
        CHECKS.same("walk(0, 2), both ends at once", 2, x.walk(0L, 2));
        CHECKS.same("walk(0, 1)", 1, x.walk(0L, 1));
        CHECKS.same("computed(0)", 0, x.computed(0));
    }

    /** "A walk also ends when it has gone through some number of blocks." */
    private static void walkEndsAtMost() {
        CodeMover x = Programs.of(2, 1);
        x.addEdge(0, 1);
        x.addEdge(1, 1);
        x.compute(1, 0);
        for (int most : new int[] {1, 2, 3, 64, 65, 66, 67, 999, 1000}) {
            CHECKS.same("walk(0, " + most + ")", most, x.walk(0L, most));
            CHECKS.same("computed(0)", most - 1, x.computed(0));
            CHECKS.same("lastBlock()", most == 1 ? 0 : 1, x.lastBlock());
        }
        CHECKS.refused("walk(0, 0)", x, ARGUMENT, () -> x.walk(0L, 0));
        CHECKS.refused("walk(0, 1001)", x, ARGUMENT, () -> x.walk(0L, 1001));
    }

    /** Each block leads to block 1 by a bit that is 0, and to block 2 by a bit that is 1. */
    private static CodeMover tellingBits() {
        CodeMover x = Programs.of(3);
        for (int block = 0; block < 3; block++) {
            x.addEdge(block, 1);
            x.addEdge(block, 2);
        }
        return x;
    }

    /** "the choices are 64 bits, the lowest one first". */
    private static void walkOfAllBits() {
        long[] words = {0L, -1L, 1L, Long.MIN_VALUE, Long.MAX_VALUE, 0x123456789ABCDEFL,
            0x8000000080000000L, 1L << 31, 1L << 32, 0xAAAAAAAAAAAAAAAAL};
        for (long word : words) {
            checkBits(word, 0, 64);
        }
    }

    /** "behind the last one the first one comes again", and all others behind it. */
    private static void walkBitsComeAgain() {
        long word = 0xC3A5F00F96E1D283L;
        checkBits(word, 64, 200);
        checkBits(word, 200, 400);
        checkBits(word, 800, 999);
        checkBits(1L, 60, 70);
        checkBits(Long.MIN_VALUE, 60, 70);
        checkBits(1L, 124, 134);
        checkBits(Long.MIN_VALUE, 124, 134);
    }

    private static void checkBits(long word, int first, int end) {
        CodeMover x = tellingBits();
        for (int bit = first; bit < end; bit++) {
            x.walk(word, bit + 2);
            CHECKS.same("bit " + bit + " of " + Long.toHexString(word),
                    Long.remainderUnsigned(word >>> bit % 64, 2) + 1, x.lastBlock());
        }
    }

    private static void walkBitsFromTheFirstAgain() {
        CodeMover x = tellingBits();
        for (int i = 0; i < 3; i++) {
            x.walk(2L, 2);
            CHECKS.same("each walk begins with the first bit", 1, x.lastBlock());
            x.walk(2L, 3);
            CHECKS.same("and goes on with the second one", 2, x.lastBlock());
        }
    }

    private static void walkTakesBitsOfTwoExitsAlone() {
        CodeMover x = Programs.of(6);
        int[][] pairs = {{0, 1}, {1, 2}, {1, 3}, {2, 4}, {3, 4}, {4, 5}, {4, 1}};
        for (int[] pair : pairs) {
            x.addEdge(pair[0], pair[1]);
        }
        CHECKS.same("walk(0), by 2 to the end", 5, x.walk(0L, 1000));
        CHECKS.same("walk(1), by 3 to the end", 5, x.walk(1L, 1000));
        CHECKS.same("walk(2), once more by 2", 8, x.walk(2L, 1000));
        CHECKS.same("walk(10), twice more", 11, x.walk(10L, 1000));
        x.walk(1L, 3);
        CHECKS.same("lastBlock()", 3, x.lastBlock());
        x.walk(6L, 6);
        CHECKS.same("lastBlock()", 3, x.lastBlock());
    }

    /** "held from a COMPUTE of it on, until an ASSIGN to a variable on which it depends". */
    private static void heldFromComputeToAssign() {
        CodeMover x = Programs.of(1, 1, 2);
        x.compute(0, 0);
        CHECKS.same("walk(0, 1)", 1, x.walk(0L, 1));
        CHECKS.same("heldFor(0) of the COMPUTE alone", 0, x.heldFor(0));
        x.assign(0, 1);
        x.walk(0L, 1);
        CHECKS.same("heldFor(0) at another ASSIGN", 1, x.heldFor(0));
        x.assign(0, 0);
        x.walk(0L, 1);
        CHECKS.same("heldFor(0) at its ASSIGN", 2, x.heldFor(0));
        x.assign(0, 0);
        x.use(0, 0);
        x.walk(0L, 1);
        CHECKS.same("heldFor(0) behind its ASSIGN", 2, x.heldFor(0));
        CHECKS.same("misses()", 1, x.misses());
        x.compute(0, 0);
        x.compute(0, 0);
        x.use(0, 0);
        x.walk(0L, 1);
        CHECKS.same("heldFor(0) by another COMPUTE", 4, x.heldFor(0));
        CHECKS.same("heldFor(1)", 0, x.heldFor(1));
        CHECKS.same("misses()", 1, x.misses());
    }

    /** "A USE of an expression whose value is not held is a miss", from the first block on. */
    private static void missesOfTheFirstUse() {
        CodeMover x = Programs.of(1, 0, 1);
        x.use(0, 0);
        x.walk(0L, 1);
        CHECKS.same("misses()", 1, x.misses());
        x.compute(0, 0);
        x.use(0, 1);
        x.use(0, 0);
        x.walk(0L, 1);
        CHECKS.same("misses() of another value", 2, x.misses());
        x.walk(0L, 1);
        CHECKS.same("nothing is held from walk to walk", 2, x.misses());
    }

    /** "d becomes d * 31 + x, which wraps around as a 64-bit integer". */
    private static void digestWrapsAround() {
        CodeMover x = Programs.of(40, 63, 62, 61, 60, 59, 58, 57, 56);
        BigInteger due = BigInteger.valueOf(83);
        int[] begin = {8, 63, 62, 61, 60, 59, 58, 57, 56, 40};
        for (int number : begin) {
            due = next(due, number);
        }
        for (int block = 0; block < 40; block++) {
            due = next(due, block % 3);
            for (int i = 0; i < block % 3; i++) {
                x.use(block, 7);
                due = next(due, 22);
            }
        }
        due = next(due, 1);
        x.addEdge(39, 39);
        due = next(due, 1599);
        CHECKS.same("digest()", next(next(due, 0), -1).longValue(), x.digest());
        x.addEdge(0, 2);
        x.walk(0L, 2);
        CHECKS.holds("the digest is beyond 64 bits", due.bitLength() > 400);
        CHECKS.same("misses()", 2, x.misses());
    }

    private static BigInteger next(BigInteger d, int number) {
        return d.multiply(BigInteger.valueOf(31)).add(BigInteger.valueOf(number));
    }
}
