/** Promises 14 to 23: the sets of blocks and edges, in programs that were worked out by hand. */
final class SetsTest {
    private static final Class<IndexOutOfBoundsException> INDEX = IndexOutOfBoundsException.class;
    private static final Checks CHECKS = new Checks("SetsTest");

    public static void main(String[] args) {
        setsOfOneBlock();
        usesCountForNothing();
        neededOnAllWays();
        neededForEver();
        thereOnAllWays();
        thereWithoutBeginning();
        earliestPlaces();
        delayedToTheUse();
        delayedFromTheBeginning();
        delayedWithoutBeginning();
        setsFollowChanges();
        wrongNumbers();
        CHECKS.end();
    }

    private static void setsOfOneBlock() {
        CodeMover x = program(1, 1, 2, 0, 3);
        x.compute(0, 0);
        x.assign(0, 0);
        x.compute(0, 0);
        x.compute(0, 3);
        x.assign(0, 1);
        x.compute(0, 1);
        x.compute(0, 2);
        CHECKS.same("kept(0)", 4, x.kept(0));
        CHECKS.same("early(0)", 1 + 4, x.early(0));
        CHECKS.same("late(0)", 1 + 2 + 4, x.late(0));
        CHECKS.same("needed(0, false)", 1 + 4, x.needed(0, false));
        CHECKS.same("needed(0, true)", 0, x.needed(0, true));
        CHECKS.same("there(0, false)", 0, x.there(0, false));
        CHECKS.same("there(0, true)", 1 + 2 + 4, x.there(0, true));
        CHECKS.same("delayedAt(0)", 1 + 4, x.delayedAt(0));
        CHECKS.same("deletions(0)", 0, x.deletions(0));
    }

    private static void usesCountForNothing() {
        CodeMover x = program(2, 1);
        x.addEdge(0, 1);
        x.use(0, 0);
        x.use(1, 0);
        CHECKS.same("kept(0)", 1, x.kept(0));
        CHECKS.same("early(0)", 0, x.early(0));
        CHECKS.same("late(0)", 0, x.late(0));
        CHECKS.same("needed(0, true)", 0, x.needed(0, true));
        CHECKS.same("there(1, false)", 0, x.there(1, false));
        CHECKS.same("delayedAt(1)", 0, x.delayedAt(1));
    }

    private static void neededOnAllWays() {
        CodeMover x = program(4, 1, 2, 4);
        x.addEdge(0, 1);
        x.addEdge(1, 2);
        x.addEdge(1, 3);
        x.assign(1, 2);
        x.compute(1, 2);
        x.compute(2, 0);
        x.compute(2, 1);
        x.compute(2, 2);
        x.assign(3, 1);
        x.compute(3, 0);
        x.compute(3, 1);
        x.compute(3, 2);
        CHECKS.same("needed(3, false)", 1 + 4, x.needed(3, false));
        CHECKS.same("needed(3, true)", 0, x.needed(3, true));
        CHECKS.same("needed(2, false)", 7, x.needed(2, false));
        CHECKS.same("needed(1, true)", 1 + 4, x.needed(1, true));
        CHECKS.same("needed(1, false)", 1, x.needed(1, false));
        CHECKS.same("needed(0, true)", 1, x.needed(0, true));
        CHECKS.same("needed(0, false)", 1, x.needed(0, false));
    }

    private static void neededForEver() {
        CodeMover x = program(3, 1, 2);
        x.addEdge(0, 1);
        x.addEdge(1, 2);
        x.addEdge(2, 1);
        x.assign(2, 1);
        CHECKS.same("needed(1, false)", 1, x.needed(1, false));
        CHECKS.same("needed(2, true)", 1, x.needed(2, true));
        x.drop(2);
        CHECKS.same("needed(1, false)", 3, x.needed(1, false));
        CHECKS.same("needed(0, false)", 3, x.needed(0, false));
    }

    private static void thereOnAllWays() {
        CodeMover x = program(5, 1, 2, 4);
        x.addEdge(0, 1);
        x.addEdge(0, 2);
        x.addEdge(1, 3);
        x.addEdge(2, 3);
        x.addEdge(3, 4);
        x.compute(0, 2);
        x.compute(1, 0);
        x.compute(1, 1);
        x.compute(2, 0);
        x.compute(2, 1);
        x.assign(2, 1);
        x.assign(3, 2);
        CHECKS.same("there(0, true)", 4, x.there(0, true));
        CHECKS.same("there(1, false)", 4, x.there(1, false));
        CHECKS.same("there(1, true)", 7, x.there(1, true));
        CHECKS.same("there(2, true)", 1 + 4, x.there(2, true));
        CHECKS.same("there(3, false)", 1 + 4, x.there(3, false));
        CHECKS.same("there(3, true)", 1, x.there(3, true));
        CHECKS.same("there(4, false)", 1, x.there(4, false));
    }

    private static void thereWithoutBeginning() {
        CodeMover x = program(4, 1, 2);
        x.addEdge(2, 2);
        x.addEdge(2, 3);
        CHECKS.same("there(1, false)", 0, x.there(1, false));
        CHECKS.same("there(2, false)", 3, x.there(2, false));
        CHECKS.same("there(3, false)", 3, x.there(3, false));
        x.assign(2, 0);
        CHECKS.same("there(2, false)", 2, x.there(2, false));
        x.addEdge(0, 2);
        CHECKS.same("there(2, false)", 0, x.there(2, false));
    }

    private static void earliestPlaces() {
        CodeMover x = program(4, 1, 2, 4);
        x.addEdge(0, 1);
        x.addEdge(0, 2);
        x.addEdge(1, 3);
        x.addEdge(2, 3);
        x.compute(1, 1);
        x.assign(2, 0);
        x.compute(3, 0);
        x.compute(3, 1);
        x.compute(3, 2);
        // e0 is lost in block 2, e1 is there behind block 1, e2 can be computed at the beginning.
        CHECKS.same("earliest(0)", 1, x.earliest(0));
        CHECKS.same("earliest(1)", 0, x.earliest(1));
        CHECKS.same("earliest(2)", 0, x.earliest(2));
        CHECKS.same("earliest(3)", 1, x.earliest(3));
        CHECKS.same("needed(0, false)", 2 + 4, x.needed(0, false));
        CHECKS.same("delayedAt(0)", 2 + 4, x.delayedAt(0));
    }

    private static void delayedToTheUse() {
        CodeMover x = program(5, 1, 2);
        x.addEdge(0, 1);
        x.addEdge(0, 2);
        x.addEdge(1, 3);
        x.addEdge(2, 3);
        x.addEdge(3, 4);
        x.compute(1, 0);
        x.compute(3, 0);
        x.compute(4, 1);
        CHECKS.same("delayedAt(0)", 3, x.delayedAt(0));
        CHECKS.same("delayedOn(0)", 3, x.delayedOn(0));
        CHECKS.same("delayedOn(2)", 2, x.delayedOn(2));
        CHECKS.same("delayedOn(3)", 3, x.delayedOn(3));
        CHECKS.same("delayedAt(3)", 2, x.delayedAt(3));
        CHECKS.same("delayedOn(4)", 2, x.delayedOn(4));
        CHECKS.same("insertions(2)", 0, x.insertions(2));
        CHECKS.same("insertions(3)", 1, x.insertions(3));
        CHECKS.same("deletions(1)", 0, x.deletions(1));
        CHECKS.same("deletions(3)", 1, x.deletions(3));
        CHECKS.same("deletions(4)", 0, x.deletions(4));
    }

    private static void delayedFromTheBeginning() {
        CodeMover x = program(3, 1);
        x.addEdge(0, 1);
        x.addEdge(1, 1);
        x.addEdge(1, 2);
        x.compute(1, 0);
        CHECKS.same("delayedAt(0)", 1, x.delayedAt(0));
        CHECKS.same("delayedOn(0)", 1, x.delayedOn(0));
        CHECKS.same("delayedOn(1)", 0, x.delayedOn(1));
        CHECKS.same("delayedAt(1)", 0, x.delayedAt(1));
        CHECKS.same("insertions(0)", 1, x.insertions(0));
        CHECKS.same("deletions(1)", 1, x.deletions(1));
        x.compute(0, 0);
        CHECKS.same("delayedOn(0) behind a compute", 0, x.delayedOn(0));
        CHECKS.same("insertions(0) behind a compute", 0, x.insertions(0));
        CHECKS.same("deletions(1) behind a compute", 1, x.deletions(1));
        CHECKS.same("deletions(0)", 0, x.deletions(0));
    }

    private static void delayedWithoutBeginning() {
        CodeMover x = program(4, 1, 2);
        x.addEdge(1, 1);
        x.addEdge(3, 2);
        x.compute(2, 0);
        x.compute(3, 1);
        CHECKS.same("delayedAt(1)", 3, x.delayedAt(1));
        CHECKS.same("delayedOn(0)", 3, x.delayedOn(0));
        // Block 3 keeps e0, which is needed behind it, and so the edge is no earliest place.
        CHECKS.same("earliest(1)", 0, x.earliest(1));
        CHECKS.same("delayedAt(3)", 0, x.delayedAt(3));
        CHECKS.same("delayedAt(2)", 0, x.delayedAt(2));
        CHECKS.same("deletions(2)", 1, x.deletions(2));
        CHECKS.same("deletions(3)", 2, x.deletions(3));
    }

    private static void setsFollowChanges() {
        CodeMover x = program(2, 1);
        x.addEdge(0, 1);
        CHECKS.same("needed(0, true)", 0, x.needed(0, true));
        x.compute(1, 0);
        CHECKS.same("needed(0, true) behind compute", 1, x.needed(0, true));
        x.assign(0, 0);
        CHECKS.same("kept(0) behind assign", 0, x.kept(0));
        CHECKS.same("earliest(0) behind assign", 1, x.earliest(0));
        x.addBlock();
        CHECKS.same("kept(2) behind addBlock", 1, x.kept(2));
        x.addExpression(2);
        CHECKS.same("kept(2) behind addExpression", 3, x.kept(2));
        x.addEdge(0, 2);
        CHECKS.same("needed(0, true) behind addEdge", 0, x.needed(0, true));
        x.drop(0);
        CHECKS.same("kept(0) behind drop", 3, x.kept(0));
    }

    private static void wrongNumbers() {
        CodeMover x = program(3, 1);
        x.addEdge(0, 1);
        x.addEdge(1, 2);
        for (int block : new int[] {-1, 3, 40, Integer.MIN_VALUE, Integer.MAX_VALUE}) {
            CHECKS.refused("kept", x, INDEX, () -> x.kept(block));
            CHECKS.refused("early", x, INDEX, () -> x.early(block));
            CHECKS.refused("late", x, INDEX, () -> x.late(block));
            CHECKS.refused("needed", x, INDEX, () -> x.needed(block, false));
            CHECKS.refused("needed at the end", x, INDEX, () -> x.needed(block, true));
            CHECKS.refused("there", x, INDEX, () -> x.there(block, false));
            CHECKS.refused("there at the end", x, INDEX, () -> x.there(block, true));
            CHECKS.refused("delayedAt", x, INDEX, () -> x.delayedAt(block));
            CHECKS.refused("deletions", x, INDEX, () -> x.deletions(block));
        }
        for (int edge : new int[] {-1, 2, 80, Integer.MIN_VALUE, Integer.MAX_VALUE}) {
            CHECKS.refused("earliest", x, INDEX, () -> x.earliest(edge));
            CHECKS.refused("delayedOn", x, INDEX, () -> x.delayedOn(edge));
            CHECKS.refused("insertions", x, INDEX, () -> x.insertions(edge));
        }
    }

    private static CodeMover program(int blocks, int... variables) {
        CodeMover x = new CodeMover();
        for (int block = 1; block < blocks; block++) {
            x.addBlock();
        }
        for (int set : variables) {
            x.addExpression(set);
        }
        return x;
    }
}
