import java.util.Random;

/** All promises: runs of 512 calls, drawn by fixed seeds, answered as the model answers them. */
final class ModelTest {
    private static final int RUNS = 200;
    private static final int CALLS = 512;
    private static final int METHODS = 29;
    private static final int MOVE = 22;
    private static final int WALK = 23;

    private static final Checks CHECKS = new Checks("ModelTest");

    private final Random random;
    private final CodeMover mover = new CodeMover();
    private final Model model = new Model();
    /** How many blocks a run adds at the most, and how often it asks, errs and moves. */
    private final int mostBlocks;
    private final int askPercent;
    private final int wrongPercent;
    private final int movePercent;
    private final long run;
    private int call = 0;

    private ModelTest(long run) {
        this.run = run;
        // Neighbouring seeds draw alike at first, so they are spread.
        random = new Random(run * 0x9E3779B97F4A7C15L);
        mostBlocks = 2 + random.nextInt(random.nextBoolean() ? 6 : 42);
        askPercent = random.nextInt(60);
        wrongPercent = random.nextInt(6);
        movePercent = random.nextInt(4);
    }

    public static void main(String[] args) {
        for (int run = 0; run < RUNS; run++) {
            new ModelTest(run).makeCalls();
        }
        CHECKS.end();
    }

    private void makeCalls() {
        while (call < CALLS) {
            if (random.nextInt(100) < movePercent) {
                one(MOVE);
            } else if (random.nextInt(100) < askPercent) {
                one(ask());
            } else {
                one(build());
            }
        }
    }

    private int ask() {
        int method = 7 + random.nextInt(METHODS - 7);
        return method == MOVE ? WALK : method;
    }

    private int build() {
        int roll = random.nextInt(100);
        if (roll < 4) {
            return 0;
        }
        if (roll < 20) {
            return model.blockCount() < mostBlocks ? 1 : 2;
        }
        return roll < 50 ? 2 : roll < 72 ? 3 : roll < 78 ? 4 : roll < 94 ? 5 : 6;
    }

    private int block() {
        return number(model.blockCount());
    }

    private int edge() {
        return number(model.edgeCount());
    }

    private int expression() {
        return number(model.expressionCount());
    }

    private int number(int count) {
        if (count == 0 || random.nextInt(100) < wrongPercent) {
            int[] wrong = {-1, count, count + 1, Integer.MIN_VALUE, Integer.MAX_VALUE, 80, 1 << 28};
            return wrong[random.nextInt(wrong.length)];
        }
        return random.nextInt(count);
    }

    private long choices() {
        return random.nextInt(4) == 0 ? random.nextInt(16) : random.nextLong();
    }

    private int most() {
        return random.nextInt(3) == 0 ? 1 + random.nextInt(1000) : random.nextInt(40);
    }

    private void one(int method) {
        switch (method) {
            case 0 -> addExpression();
            case 1 -> same("addBlock()", model::addBlock, mover::addBlock);
            case 2 -> addEdge();
            case 3, 4, 5 -> append("CUA".charAt(method - 3));
            case 7 -> same("blockCount()", model::blockCount, mover::blockCount);
            case 8 -> same("edgeCount()", model::edgeCount, mover::edgeCount);
            case MOVE -> same("move()", model::move, mover::move);
            case WALK -> walk();
            case 25 -> same("misses()", model::misses, mover::misses);
            case 26 -> same("lastBlock()", model::lastBlock, mover::lastBlock);
            case 28 -> same("digest()", model::digest, mover::digest);
            case 6, 9, 10, 12, 13, 14, 15, 16, 19, 21 -> ofBlock(method, block());
            case 11, 17, 18, 20 -> ofEdge(method, edge());
            default -> ofExpression(method, expression());
        }
    }

    private void addExpression() {
        int variables = random.nextInt(100) < wrongPercent ? random.nextInt() : random.nextInt(64);
        int some = random.nextBoolean() ? variables : variables & random.nextInt(64);
        same("addExpression(" + some + ")", () -> model.addExpression(some),
                () -> mover.addExpression(some));
    }

    private void addEdge() {
        int from = block();
        int to = block();
        same("addEdge(" + from + ", " + to + ")", () -> model.addEdge(from, to),
                () -> mover.addEdge(from, to));
    }

    private void append(char kind) {
        int block = block();
        int subject = kind == 'A' ? number(6) : expression();
        same(kind + "(" + block + ", " + subject + ")",
                () -> model.append(kind, block, subject),
                () -> kind == 'C' ? mover.compute(block, subject)
                        : kind == 'U' ? mover.use(block, subject) : mover.assign(block, subject));
    }

    private void walk() {
        long choices = choices();
        int most = most();
        same("walk(" + choices + ", " + most + ")", () -> model.walk(choices, most),
                () -> mover.walk(choices, most));
    }

    private void ofBlock(int method, int b) {
        boolean end = random.nextBoolean();
        int i = number(b >= 0 && b < model.blockCount() ? model.size(b) : 0);
        switch (method) {
            case 6 -> same("drop " + b, () -> model.drop(b), () -> mover.drop(b));
            case 9 -> same("size " + b, () -> model.size(b), () -> mover.size(b));
            case 10 -> same("instruction " + b + " " + i, () -> model.instruction(b, i),
                    () -> mover.instruction(b, i));
            case 12 -> same("kept " + b, () -> model.kept(b), () -> mover.kept(b));
            case 13 -> same("early " + b, () -> model.early(b), () -> mover.early(b));
            case 14 -> same("late " + b, () -> model.late(b), () -> mover.late(b));
            case 15 -> same("needed " + b + " " + end, () -> model.needed(b, end),
                    () -> mover.needed(b, end));
            case 16 -> same("there " + b + " " + end, () -> model.there(b, end),
                    () -> mover.there(b, end));
            case 19 -> same("delayedAt " + b, () -> model.delayedAt(b),
                    () -> mover.delayedAt(b));
            default -> same("deletions " + b, () -> model.deletions(b),
                    () -> mover.deletions(b));
        }
    }

    private void ofEdge(int method, int e) {
        switch (method) {
            case 11 -> same("ends " + e, () -> model.ends(e), () -> mover.ends(e));
            case 17 -> same("earliest " + e, () -> model.earliest(e), () -> mover.earliest(e));
            case 18 -> same("delayedOn " + e, () -> model.delayedOn(e),
                    () -> mover.delayedOn(e));
            default -> same("insertions " + e, () -> model.insertions(e),
                    () -> mover.insertions(e));
        }
    }

    private void ofExpression(int method, int e) {
        if (method == 24) {
            same("computed " + e, () -> model.computed(e), () -> mover.computed(e));
        } else {
            same("heldFor " + e, () -> model.heldFor(e), () -> mover.heldFor(e));
        }
    }

    private void same(String what, Checks.Call due, Checks.Call got) {
        call++;
        String answerDue = answer(due);
        String answerGot = answer(got);
        CHECKS.holds("run " + run + ", call " + call + ": " + what + " answers " + answerDue
                + ", not " + answerGot, answerDue.equals(answerGot));
    }

    private static String answer(Checks.Call call) {
        try {
            return Long.toString(call.answer());
        } catch (RuntimeException thrown) {
            return thrown.getClass().getName();
        }
    }
}
