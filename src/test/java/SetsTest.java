/** Promises 14 to 23: the sets of blocks and edges, in programs that were worked out by hand. */
final class SetsTest {
    private static final Class<IndexOutOfBoundsException> INDEX = IndexOutOfBoundsException.class;
    private static final Checks CHECKS = new Checks("SetsTest");

    public static void main(String[] args) {
        setsOfOneBlock();
        usesCountForNothing();
        neededOnAllWays();
        neededForEver();
        thereOnAllWays();
        thereWithoutBeginning();
        earliestPlaces();
        delayedToTheUse();
        delayedFromTheBeginning();
        delayedWithoutBeginning();
        setsFollowChanges();
        everySetFollows();
        allEdgesAndBlocks();
        longChain(true);
        longChain(false);
        wrongNumbers();
        CHECKS.end();
    }

    private static void setsOfOneBlock() {
        CodeMover x = Programs.of(1, 1, 2, 0, 3);
        x.compute(0, 0);
        x.assign(0, 0);
        x.compute(0, 0);
        x.compute(0, 3);
        x.assign(0, 1);
        x.compute(0, 1);
        x.compute(0, 2);
        CHECKS.same("kept(0)", 4, x.kept(0));
        CHECKS.same("early(0)", 1 + 4, x.early(0));
        CHECKS.same("late(0)", 1 + 2 + 4, x.late(0));
        CHECKS.same("needed(0, false)", 1 + 4, x.needed(0, false));
        CHECKS.same("needed(0, true)", 0, x.needed(0, true));
        CHECKS.same("there(0, false)", 0, x.there(0, false));
        CHECKS.same("there(0, true)", 1 + 2 + 4, x.there(0, true));
        CHECKS.same("delayedAt(0)", 1 + 4, x.delayedAt(0));
        CHECKS.same("deletions(0)", 0, x.deletions(0));
    }

    private static void usesCountForNothing() {
        CodeMover x = Programs.of(2, 1);
        x.addEdge(0, 1);
        x.use(0, 0);
        x.use(1, 0);
        CHECKS.same("kept(0)", 1, x.kept(0));
        CHECKS.same("early(0)", 0, x.early(0));
        CHECKS.same("late(0)", 0, x.late(0));
        CHECKS.same("needed(0, true)", 0, x.needed(0, true));
        CHECKS.same("there(1, false)", 0, x.there(1, false));
        CHECKS.same("delayedAt(1)", 0, x.delayedAt(1));
    }

    private static void neededOnAllWays() {
        CodeMover x = Programs.of(4, 1, 2, 4);
        x.addEdge(0, 1);
        x.addEdge(1, 2);
        x.addEdge(1, 3);
        x.assign(1, 2);
        x.compute(1, 2);
        x.compute(2, 0);
        x.compute(2, 1);
        x.compute(2, 2);
        x.assign(3, 1);
        x.compute(3, 0);
        x.compute(3, 1);
        x.compute(3, 2);
        CHECKS.same("needed(3, false)", 1 + 4, x.needed(3, false));
        CHECKS.same("needed(3, true)", 0, x.needed(3, true));
        CHECKS.same("needed(2, false)", 7, x.needed(2, false));
        CHECKS.same("needed(1, true)", 1 + 4, x.needed(1, true));
        CHECKS.same("needed(1, false)", 1, x.needed(1, false));
        CHECKS.same("needed(0, true)", 1, x.needed(0, true));
        CHECKS.same("needed(0, false)", 1, x.needed(0, false));
    }

    private static void neededForEver() {
        CodeMover x = Programs.of(3, 1, 2);
        x.addEdge(0, 1);
        x.addEdge(1, 2);
        x.addEdge(2, 1);
        x.assign(2, 1);
        CHECKS.same("needed(1, false)", 1, x.needed(1, false));
        CHECKS.same("needed(2, true)", 1, x.needed(2, true));
        x.drop(2);
        CHECKS.same("needed(1, false)", 3, x.needed(1, false));
        CHECKS.same("needed(0, false)", 3, x.needed(0, false));
    }

    private static void thereOnAllWays() {
        CodeMover x = Programs.of(5, 1, 2, 4);
        x.addEdge(0, 1);
        x.addEdge(0, 2);
        x.addEdge(1, 3);
        x.addEdge(2, 3);
        x.addEdge(3, 4);
        x.compute(0, 2);
        x.compute(1, 0);
        x.compute(1, 1);
        x.compute(2, 0);
        x.compute(2, 1);
        x.assign(2, 1);
        x.assign(3, 2);
        CHECKS.same("there(0, true)", 4, x.there(0, true));
        CHECKS.same("there(1, false)", 4, x.there(1, false));
        CHECKS.same("there(1, true)", 7, x.there(1, true));
        CHECKS.same("there(2, true)", 1 + 4, x.there(2, true));
        CHECKS.same("there(3, false)", 1 + 4, x.there(3, false));
        CHECKS.same("there(3, true)", 1, x.there(3, true));
        CHECKS.same("there(4, false)", 1, x.there(4, false));
    }

    private static void thereWithoutBeginning() {
        CodeMover x = Programs.of(4, 1, 2);
        x.addEdge(2, 2);
        x.addEdge(2, 3);
        CHECKS.same("there(1, false)", 0, x.there(1, false));
        CHECKS.same("there(2, false)", 3, x.there(2, false));
        CHECKS.same("there(3, false)", 3, x.there(3, false));
        x.assign(2, 0);
        CHECKS.same("there(2, false)", 2, x.there(2, false));
        x.addEdge(0, 2);
        CHECKS.same("there(2, false)", 0, x.there(2, false));
    }

    private static void earliestPlaces() {
        CodeMover x = Programs.of(4, 1, 2, 4);
        x.addEdge(0, 1);
        x.addEdge(0, 2);
        x.addEdge(1, 3);
        x.addEdge(2, 3);
        x.compute(1, 1);
        x.assign(2, 0);
        x.compute(3, 0);
        x.compute(3, 1);
        x.compute(3, 2);
        // e0 is lost in block 2, e1 is there behind block 1, e2 can be computed at the beginning.
        CHECKS.same("earliest(0)", 1, x.earliest(0));
        CHECKS.same("earliest(1)", 0, x.earliest(1));
        CHECKS.same("earliest(2)", 0, x.earliest(2));
        CHECKS.same("earliest(3)", 1, x.earliest(3));
        CHECKS.same("needed(0, false)", 2 + 4, x.needed(0, false));
        CHECKS.same("delayedAt(0)", 2 + 4, x.delayedAt(0));
    }

    private static void delayedToTheUse() {
        CodeMover x = Programs.of(5, 1, 2);
        x.addEdge(0, 1);
        x.addEdge(0, 2);
        x.addEdge(1, 3);
        x.addEdge(2, 3);
        x.addEdge(3, 4);
        x.compute(1, 0);
        x.compute(3, 0);
        x.compute(4, 1);
        CHECKS.same("delayedAt(0)", 3, x.delayedAt(0));
        CHECKS.same("delayedOn(0)", 3, x.delayedOn(0));
        CHECKS.same("delayedOn(2)", 2, x.delayedOn(2));
        CHECKS.same("delayedOn(3)", 3, x.delayedOn(3));
        CHECKS.same("delayedAt(3)", 2, x.delayedAt(3));
        CHECKS.same("delayedOn(4)", 2, x.delayedOn(4));
        CHECKS.same("insertions(2)", 0, x.insertions(2));
        CHECKS.same("insertions(3)", 1, x.insertions(3));
        CHECKS.same("deletions(1)", 0, x.deletions(1));
        CHECKS.same("deletions(3)", 1, x.deletions(3));
        CHECKS.same("deletions(4)", 0, x.deletions(4));
    }

    private static void delayedFromTheBeginning() {
        CodeMover x = Programs.of(3, 1);
        x.addEdge(0, 1);
        x.addEdge(1, 1);
        x.addEdge(1, 2);
        x.compute(1, 0);
        CHECKS.same("delayedAt(0)", 1, x.delayedAt(0));
        CHECKS.same("delayedOn(0)", 1, x.delayedOn(0));
        CHECKS.same("delayedOn(1)", 0, x.delayedOn(1));
        CHECKS.same("delayedAt(1)", 0, x.delayedAt(1));
        CHECKS.same("insertions(0)", 1, x.insertions(0));
        CHECKS.same("deletions(1)", 1, x.deletions(1));
        x.compute(0, 0);
        CHECKS.same("delayedOn(0) behind a compute", 0, x.delayedOn(0));
        CHECKS.same("insertions(0) behind a compute", 0, x.insertions(0));
        CHECKS.same("deletions(1) behind a compute", 1, x.deletions(1));
        CHECKS.same("deletions(0)", 0, x.deletions(0));
    }

    private static void delayedWithoutBeginning() {
        CodeMover x = Programs.of(4, 1, 2);
        x.addEdge(1, 1);
        x.addEdge(3, 2);
        x.compute(2, 0);
        x.compute(3, 1);
        CHECKS.same("delayedAt(1)", 3, x.delayedAt(1));
        CHECKS.same("delayedOn(0)", 3, x.delayedOn(0));
        // Block 3 keeps e0, which is needed behind it, and so the edge is no earliest place.
        CHECKS.same("earliest(1)", 0, x.earliest(1));
        CHECKS.same("delayedAt(3)", 0, x.delayedAt(3));
        CHECKS.same("delayedAt(2)", 0, x.delayedAt(2));
        CHECKS.same("deletions(2)", 1, x.deletions(2));
        CHECKS.same("deletions(3)", 2, x.deletions(3));
    }

    private static void setsFollowChanges() {
        CodeMover x = Programs.of(2, 1);
        x.addEdge(0, 1);
        CHECKS.same("needed(0, true)", 0, x.needed(0, true));
        x.compute(1, 0);
        CHECKS.same("needed(0, true) behind compute", 1, x.needed(0, true));
        x.assign(0, 0);
        CHECKS.same("kept(0) behind assign", 0, x.kept(0));
        CHECKS.same("earliest(0) behind assign", 1, x.earliest(0));
        x.addBlock();
        CHECKS.same("kept(2) behind addBlock", 1, x.kept(2));
        x.addExpression(2);
        CHECKS.same("kept(2) behind addExpression", 3, x.kept(2));
        x.addEdge(0, 2);
        CHECKS.same("needed(0, true) behind addEdge", 0, x.needed(0, true));
        x.drop(0);
        CHECKS.same("kept(0) behind drop", 3, x.kept(0));
    }

    /** Each method is the first one that is called behind a change. */
    private static void everySetFollows() {
        CHECKS.same("kept(1)", 1, changed().kept(1));
        CHECKS.same("early(1)", 1, changed().early(1));
        CHECKS.same("late(1)", 1, changed().late(1));
        CHECKS.same("needed(0, false)", 1, changed().needed(0, false));
        CHECKS.same("needed(0, true)", 1, changed().needed(0, true));
        CHECKS.same("there(2, false)", 1, changed().there(2, false));
        CHECKS.same("there(1, true)", 1, changed().there(1, true));
        CHECKS.same("delayedAt(0)", 1, changed().delayedAt(0));
        CHECKS.same("delayedOn(0)", 1, changed().delayedOn(0));
        CHECKS.same("insertions(0)", 1, changed().insertions(0));
        CHECKS.same("deletions(1)", 1, changed().deletions(1));
        CodeMover x = changed();
        x.assign(0, 0);
        CHECKS.same("earliest(0)", 1, x.earliest(0));
    }

    /** A loop whose sets were all asked for before its computation was added. */
    private static CodeMover changed() {
        CodeMover x = Programs.of(3, 1);
        x.addEdge(0, 1);
        x.addEdge(1, 1);
        x.addEdge(1, 2);
        CHECKS.same("deletions(1) before", 0, x.deletions(1));
        x.compute(1, 0);
        return x;
    }

    /** 80 edges among 40 blocks, the last one with 12 instructions; all lead to 38 and 39. */
    private static void allEdgesAndBlocks() {
        CodeMover x = Programs.of(40, 1, 2, 4, 8, 16, 32, 63, 0);
        for (int block = 0; block < 40; block++) {
            x.addEdge(block, 38);
            x.addEdge(block, 39);
        }
        for (int e = 0; e < 8; e++) {
            x.compute(38, e);
            x.compute(39, e);
        }
        for (int i = 0; i < 4; i++) {
            x.assign(39, 2);
        }
        CHECKS.same("late(39)", 255 - 4 - 64, x.late(39));
        CHECKS.same("there(38, false)", 0, x.there(38, false));
        CHECKS.same("needed(0, true)", 255, x.needed(0, true));
        CHECKS.same("earliest(76), the loop of 38", 0, x.earliest(76));
        CHECKS.same("earliest(79), the loop of 39", 4 + 64, x.earliest(79));
        CHECKS.same("delayedOn(79)", 4 + 64, x.delayedOn(79));
        CHECKS.same("delayedOn(1)", 255, x.delayedOn(1));
        CHECKS.same("delayedAt(39)", 0, x.delayedAt(39));
        CHECKS.same("insertions(79)", 4 + 64, x.insertions(79));
        CHECKS.same("deletions(39)", 255, x.deletions(39));
        CHECKS.refused("move()", x, IllegalStateException.class, x::move);
        CHECKS.same("instruction(39, 0)", 0, x.instruction(39, 0));
        for (int i = 0; i < 12; i++) {
            x.drop(39);
        }
        for (int i = 0; i < 8; i++) {
            x.drop(38);
        }
        for (int i = 0; i < 12; i++) {
            x.assign(39, i % 6);
            x.assign(38, i % 6);
        }
        CHECKS.same("kept(39)", 128, x.kept(39));
        CHECKS.same("needed(39, false)", 128, x.needed(39, false));
        // Nothing is delayed at blocks 1 to 37, to which no edge leads, and so not at 38 and 39.
        CHECKS.same("delayedOn(0)", 128, x.delayedOn(0));
        CHECKS.same("delayedOn(79)", 0, x.delayedOn(79));
        CHECKS.same("insertions(0)", 128, x.insertions(0));
        x.compute(0, 7);
        CHECKS.same("insertions(0) behind a compute", 0, x.insertions(0));
        CHECKS.same("move() with 80 edges", 0, x.move());
        CHECKS.same("walk through the loop of 39", 1000, x.walk(-1L, 1000));
        CHECKS.same("lastBlock()", 39, x.lastBlock());
    }

    /** A chain of all blocks that ends in a loop; its edges have the worst numbers for a round. */
    private static void longChain(boolean fromTheEnd) {
        CodeMover x = Programs.of(40, 1, 2, 4);
        x.addEdge(39, 39);
        for (int i = 0; i < 39; i++) {
            int block = fromTheEnd ? 38 - i : i;
            x.addEdge(block, block + 1);
        }
        x.compute(0, 0);
        x.compute(39, 1);
        x.assign(39, 2);
        for (int block = 0; block < 40; block++) {
            CHECKS.same("needed(" + block + ", false)", 3, x.needed(block, false));
            CHECKS.same("there(" + block + ", true)", block == 39 ? 3 : 1, x.there(block, true));
            CHECKS.same("delayedAt(" + block + ")", block == 0 ? 3 : block < 39 ? 2 : 0,
                    x.delayedAt(block));
        }
        CHECKS.same("deletions(39)", 2, x.deletions(39));
        x.drop(39);
        x.drop(39);
        x.assign(39, 0);
        for (int block = 1; block < 40; block++) {
            CHECKS.same("needed(" + block + ", false)", 6, x.needed(block, false));
            CHECKS.same("there(" + block + ", false)", block == 39 ? 0 : 1, x.there(block, false));
        }
    }

    private static void wrongNumbers() {
        CodeMover x = Programs.of(3, 1);
        x.addEdge(0, 1);
        x.addEdge(1, 2);
        for (int block : new int[] {-1, 3, 40, Integer.MIN_VALUE, Integer.MAX_VALUE}) {
            CHECKS.refused("kept", x, INDEX, () -> x.kept(block));
            CHECKS.refused("early", x, INDEX, () -> x.early(block));
            CHECKS.refused("late", x, INDEX, () -> x.late(block));
            CHECKS.refused("needed", x, INDEX, () -> x.needed(block, false));
            CHECKS.refused("needed at the end", x, INDEX, () -> x.needed(block, true));
            CHECKS.refused("there", x, INDEX, () -> x.there(block, false));
            CHECKS.refused("there at the end", x, INDEX, () -> x.there(block, true));
            CHECKS.refused("delayedAt", x, INDEX, () -> x.delayedAt(block));
            CHECKS.refused("deletions", x, INDEX, () -> x.deletions(block));
        }
        for (int edge : new int[] {-1, 2, 80, Integer.MIN_VALUE, Integer.MAX_VALUE}) {
            CHECKS.refused("earliest", x, INDEX, () -> x.earliest(edge));
            CHECKS.refused("delayedOn", x, INDEX, () -> x.delayedOn(edge));
            CHECKS.refused("insertions", x, INDEX, () -> x.insertions(edge));
        }
    }
}
