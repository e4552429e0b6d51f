import java.util.ArrayList;
import java.util.List;
import java.util.Random;

/**
 * Promises 24 to 27, by what moving is for: walks that reach an end go the same way as before, no
 * expression is computed more often, no value is missed, and moving again adds no block.
 */
final class GainTest {
    private static final int PROGRAMS = 2000;
    private static final int WALKS = 12;
    private static final int EXPRESSIONS = 4;
    private static final Checks CHECKS = new Checks("GainTest");

    private static long saved = 0;

    public static void main(String[] args) {
        Random random = new Random(11L);
        for (int i = 0; i < PROGRAMS; i++) {
            CodeMover mover = program(random);
            long[] choices = new long[WALKS];
            List<int[]> before = new ArrayList<>();
            for (int walk = 0; walk < WALKS; walk++) {
                choices[walk] = random.nextLong();
                before.add(outcome(mover, choices[walk]));
            }
            int blocks = mover.blockCount();
            CHECKS.same("new blocks", mover.move(), mover.blockCount() - blocks);
            for (int walk = 0; walk < WALKS; walk++) {
                compare("program " + i, before.get(walk), outcome(mover, choices[walk]));
            }
            CHECKS.same("new blocks of moving again", 0, mover.move());
        }
        CHECKS.holds("moving saves computations", saved > 1000);
        CHECKS.end();
    }

    /** Every block leads onwards to the last one, which has no exit; there are no uses. */
    private static CodeMover program(Random random) {
        CodeMover mover = new CodeMover();
        int blocks = 3 + random.nextInt(10);
        for (int i = 0; i < EXPRESSIONS; i++) {
            mover.addExpression(random.nextInt(64) & random.nextInt(64));
        }
        for (int block = 1; block < blocks; block++) {
            mover.addBlock();
        }
        for (int block = 0; block < blocks; block++) {
            for (int i = random.nextInt(5); i > 0; i--) {
                if (random.nextInt(3) == 0) {
                    mover.assign(block, random.nextInt(6));
                } else {
                    mover.compute(block, random.nextInt(EXPRESSIONS));
                }
            }
            if (block < blocks - 1) {
                mover.addEdge(block, block + 1);
                int other = 1 + random.nextInt(blocks - 1);
                if (other != block + 1 && random.nextInt(3) > 0) {
                    mover.addEdge(block, other);
                }
            }
        }
        return mover;
    }

    /** Whether the walk ended by itself, its last block, its misses, and what it computed. */
    private static int[] outcome(CodeMover mover, long choices) {
        int[] answer = new int[3 + EXPRESSIONS];
        answer[0] = mover.walk(choices, 1000) < 1000 ? 1 : 0;
        answer[1] = mover.lastBlock();
        answer[2] = mover.misses();
        for (int e = 0; e < EXPRESSIONS; e++) {
            answer[3 + e] = mover.computed(e);
        }
        return answer;
    }

    private static void compare(String what, int[] before, int[] after) {
        if (before[0] == 0 || after[0] == 0) {
            return;
        }
        CHECKS.same(what + ": last block", before[1], after[1]);
        CHECKS.same(what + ": misses", 0, after[2]);
        for (int e = 0; e < EXPRESSIONS; e++) {
            CHECKS.holds(what + ": e" + e + " is computed " + before[3 + e] + " times, not "
                    + after[3 + e], after[3 + e] <= before[3 + e]);
            saved += before[3 + e] - after[3 + e];
        }
    }
}
