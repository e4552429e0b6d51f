import java.util.Random;

/**
 * Promises 17, 18, 20 and 21: among all sets that fulfil the equations, the class answers the
 * greatest ones. Programs of one expression and few blocks, so that all can be tried; a solution
 * is a number with a bit a block.
 */
final class GreatestTest {
    private static final int PROGRAMS = 3000;
    private static final Checks CHECKS = new Checks("GreatestTest");

    private final CodeMover mover = new CodeMover();
    private final int blocks;
    private final int all;

    private GreatestTest(Random random) {
        blocks = 2 + random.nextInt(5);
        all = 1 << blocks;
        mover.addExpression(1);
        for (int block = 1; block < blocks; block++) {
            mover.addBlock();
        }
        for (int from = 0; from < blocks; from++) {
            int first = random.nextInt(blocks);
            int second = random.nextInt(blocks);
            if (first != 0) {
                mover.addEdge(from, first);
            }
            if (second != 0 && second != first) {
                mover.addEdge(from, second);
            }
            for (int i = random.nextInt(6); i > 3; i--) {
                if (random.nextBoolean()) {
                    mover.compute(from, 0);
                } else {
                    mover.assign(from, 0);
                }
            }
        }
    }

    public static void main(String[] args) {
        Random random = new Random(20261118L);
        for (int i = 0; i < PROGRAMS; i++) {
            new GreatestTest(random).compare();
        }
        CHECKS.end();
    }

    private void compare() {
        int needed = 0;
        int there = 0;
        int delayed = 0;
        for (int sets = 0; sets < all; sets++) {
            needed |= fulfilsNeeded(sets) ? sets : 0;
            there |= fulfilsThere(sets) ? sets : 0;
            delayed |= fulfilsDelayed(sets) ? sets : 0;
        }
        int gotNeeded = 0;
        int gotThere = 0;
        int gotDelayed = 0;
        for (int block = 0; block < blocks; block++) {
            gotNeeded |= mover.needed(block, false) << block;
            gotThere |= mover.there(block, false) << block;
            gotDelayed |= mover.delayedAt(block) << block;
        }
        CHECKS.same("needed", needed, gotNeeded);
        CHECKS.same("there", there, gotThere);
        CHECKS.same("delayed", delayed, gotDelayed);
        CHECKS.holds("needed fulfils its equations", fulfilsNeeded(gotNeeded));
        CHECKS.holds("there fulfils its equations", fulfilsThere(gotThere));
        CHECKS.holds("delayed fulfils its equations", fulfilsDelayed(gotDelayed));
        compareEnds(gotNeeded, gotThere, gotDelayed);
    }

    private void compareEnds(int needed, int there, int delayed) {
        for (int block = 0; block < blocks; block++) {
            CHECKS.same("needed at the end", neededAtEnd(needed, block) ? 1 : 0,
                    mover.needed(block, true));
            CHECKS.same("there at the end", thereAtEnd(there, block) ? 1 : 0,
                    mover.there(block, true));
        }
        for (int edge = 0; edge < mover.edgeCount(); edge++) {
            CHECKS.same("delayedOn", delayedOn(delayed, edge) ? 1 : 0, mover.delayedOn(edge));
        }
    }

    private boolean fulfilsNeeded(int sets) {
        for (int block = 0; block < blocks; block++) {
            boolean due = mover.early(block) == 1
                    || mover.kept(block) == 1 && neededAtEnd(sets, block);
            if (due != has(sets, block)) {
                return false;
            }
        }
        return true;
    }

    private boolean neededAtEnd(int sets, int block) {
        boolean any = false;
        for (int edge = 0; edge < mover.edgeCount(); edge++) {
            if (from(edge) == block) {
                any = true;
                if (!has(sets, to(edge))) {
                    return false;
                }
            }
        }
        return any;
    }

    private boolean fulfilsThere(int sets) {
        for (int block = 0; block < blocks; block++) {
            boolean any = false;
            boolean every = true;
            for (int edge = 0; edge < mover.edgeCount(); edge++) {
                if (to(edge) == block) {
                    any = true;
                    every &= thereAtEnd(sets, from(edge));
                }
            }
            if ((block != 0 && any && every) != has(sets, block)) {
                return false;
            }
        }
        return true;
    }

    private boolean thereAtEnd(int sets, int block) {
        return mover.late(block) == 1 || mover.kept(block) == 1 && has(sets, block);
    }

    private boolean fulfilsDelayed(int sets) {
        for (int block = 1; block < blocks; block++) {
            boolean any = false;
            boolean every = true;
            for (int edge = 0; edge < mover.edgeCount(); edge++) {
                if (to(edge) == block) {
                    any = true;
                    every &= delayedOn(sets, edge);
                }
            }
            if ((any && every) != has(sets, block)) {
                return false;
            }
        }
        return has(sets, 0) == (mover.needed(0, false) == 1);
    }

    private boolean delayedOn(int sets, int edge) {
        return mover.earliest(edge) == 1 || has(sets, from(edge)) && mover.early(from(edge)) == 0;
    }

    private int from(int edge) {
        return mover.ends(edge) / 40;
    }

    private int to(int edge) {
        return mover.ends(edge) % 40;
    }

    private static boolean has(int sets, int block) {
        return (sets >> block & 1) == 1;
    }
}
