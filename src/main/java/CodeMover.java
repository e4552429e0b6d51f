/**
 * A mover of computations in a program of blocks: it finds where expressions are needed, where
 * their values are there already, the earliest and the latest places for computing them, and moves
 * computations accordingly.
 */
public final class CodeMover {
    private static final int VARIABLES = 6;
    private static final int MOST_EXPRESSIONS = 8;
    private static final int MOST_BLOCKS = 40;
    private static final int MOST_INSTRUCTIONS = 12;
    private static final int MOST_EDGES = 80;
    private static final int MOST_WALKED = 1000;

    // A round that is not the last one takes an expression from a block, so 320 rounds are enough.
    private static final int MOST_ROUNDS = 1000;

    private static final int KINDS = 3;
    private static final int COMPUTE = 0;
    private static final int USE = 1;
    private static final int ASSIGN = 2;

    private static final int NONE = -1;

    private final Program program;
    private final Sets sets;
    private final Journey latest;

    public CodeMover() {
        program = new Program();
        sets = new Sets(program);
        latest = new Journey(program);
    }

    public int addExpression(int variables) throws IllegalArgumentException, IllegalStateException {
        if (variables < 0 || variables >= 1 << VARIABLES) {
            throw new IllegalArgumentException("variables is not 0 to 63");
        }
        if (program.expressions >= MOST_EXPRESSIONS) {
            throw new IllegalStateException("there are 8 expressions");
        }
        return program.newExpression(variables);
    }

    public int addBlock() throws IllegalStateException {
        if (program.blocks >= MOST_BLOCKS) {
            throw new IllegalStateException("there are 40 blocks");
        }
        return program.newBlock();
    }

    public int addEdge(int from, int to)
            throws IndexOutOfBoundsException, IllegalArgumentException, IllegalStateException {
        requireBlock(from);
        requireBlock(to);
        if (to == 0) {
            throw new IllegalArgumentException("no edge leads to block 0");
        }
        if (program.hasEdge(from, to)) {
            throw new IllegalArgumentException("there is an edge like this");
        }
        if (program.secondExit[from] != NONE) {
            throw new IllegalStateException("two edges lead from the block");
        }
        if (program.edges >= MOST_EDGES) {
            throw new IllegalStateException("there are 80 edges");
        }
        return program.newEdge(from, to);
    }

    public int compute(int block, int expression)
            throws IndexOutOfBoundsException, IllegalStateException {
        requireBlock(block);
        requireExpression(expression);
        requireRoom(block);
        return program.append(block, COMPUTE, expression);
    }

    public int use(int block, int expression)
            throws IndexOutOfBoundsException, IllegalStateException {
        requireBlock(block);
        requireExpression(expression);
        requireRoom(block);
        return program.append(block, USE, expression);
    }

    public int assign(int block, int variable)
            throws IndexOutOfBoundsException, IllegalStateException {
        requireBlock(block);
        if (variable < 0 || variable >= VARIABLES) {
            throw new IndexOutOfBoundsException("variable is not 0 to 5");
        }
        requireRoom(block);
        return program.append(block, ASSIGN, variable);
    }

    public int drop(int block) throws IndexOutOfBoundsException, IllegalStateException {
        requireBlock(block);
        if (program.sizes[block] == 0) {
            throw new IllegalStateException("the block has no instruction");
        }
        return program.removeLast(block);
    }

    public int blockCount() {
        return program.blocks;
    }

    public int edgeCount() {
        return program.edges;
    }

    public int size(int block) throws IndexOutOfBoundsException {
        requireBlock(block);
        return program.sizes[block];
    }

    public int instruction(int block, int index) throws IndexOutOfBoundsException {
        requireBlock(block);
        if (index < 0 || index >= program.sizes[block]) {
            throw new IndexOutOfBoundsException("there is no such instruction");
        }
        return program.codeAt(block, index);
    }

    public int ends(int edge) throws IndexOutOfBoundsException {
        requireEdge(edge);
        return program.endsOf(edge);
    }

    public int kept(int block) throws IndexOutOfBoundsException {
        requireBlock(block);
        sets.bringUpToDate();
        return sets.keptIn[block];
    }

    public int early(int block) throws IndexOutOfBoundsException {
        requireBlock(block);
        sets.bringUpToDate();
        return sets.earlyIn[block];
    }

    public int late(int block) throws IndexOutOfBoundsException {
        requireBlock(block);
        sets.bringUpToDate();
        return sets.lateIn[block];
    }

    public int needed(int block, boolean atEnd) throws IndexOutOfBoundsException {
        requireBlock(block);
        sets.bringUpToDate();
        return atEnd ? sets.neededAtEnd[block] : sets.neededAtStart[block];
    }

    public int there(int block, boolean atEnd) throws IndexOutOfBoundsException {
        requireBlock(block);
        sets.bringUpToDate();
        return atEnd ? sets.thereAtEnd[block] : sets.thereAtStart[block];
    }

    public int earliest(int edge) throws IndexOutOfBoundsException {
        requireEdge(edge);
        sets.bringUpToDate();
        return sets.earliestOnEdge[edge];
    }

    public int delayedOn(int edge) throws IndexOutOfBoundsException {
        requireEdge(edge);
        sets.bringUpToDate();
        return sets.delayedOnEdge[edge];
    }

    public int delayedAt(int block) throws IndexOutOfBoundsException {
        requireBlock(block);
        sets.bringUpToDate();
        return sets.delayedAtStart[block];
    }

    public int insertions(int edge) throws IndexOutOfBoundsException {
        requireEdge(edge);
        sets.bringUpToDate();
        return sets.insertedOnEdge[edge];
    }

    public int deletions(int block) throws IndexOutOfBoundsException {
        requireBlock(block);
        sets.bringUpToDate();
        return sets.deletedInBlock[block];
    }

    public int move() throws IllegalStateException {
        sets.bringUpToDate();
        int splits = sets.countEdgesWithInsertions();
        if (program.blocks + splits > MOST_BLOCKS || program.edges + splits > MOST_EDGES) {
            throw new IllegalStateException("there would be more than 40 blocks or 80 edges");
        }
        deleteComputations();
        insertComputations();
        return splits;
    }

    public int walk(long choices, int most) throws IllegalArgumentException {
        if (most < 1 || most > MOST_WALKED) {
            throw new IllegalArgumentException("most is not 1 to 1000");
        }
        return latest.goThrough(choices, most);
    }

    public int computed(int expression) throws IndexOutOfBoundsException {
        requireExpression(expression);
        return latest.timesComputed[expression];
    }

    public int misses() {
        return latest.missCount;
    }

    public int lastBlock() {
        return latest.endBlock;
    }

    public int heldFor(int expression) throws IndexOutOfBoundsException {
        requireExpression(expression);
        return latest.timesHeld[expression];
    }

    public long digest() {
        long sum = program.addToChecksum(83L);
        sum = sum * 31L + latest.missCount;
        return sum * 31L + latest.endBlock;
    }

    private void requireBlock(int block) {
        if (block < 0 || block >= program.blocks) {
            throw new IndexOutOfBoundsException("there is no such block");
        }
    }

    private void requireEdge(int edge) {
        if (edge < 0 || edge >= program.edges) {
            throw new IndexOutOfBoundsException("there is no such edge");
        }
    }

    private void requireExpression(int expression) {
        if (expression < 0 || expression >= program.expressions) {
            throw new IndexOutOfBoundsException("there is no such expression");
        }
    }

    private void requireRoom(int block) {
        if (program.sizes[block] >= MOST_INSTRUCTIONS) {
            throw new IllegalStateException("the block has 12 instructions");
        }
    }

    private void deleteComputations() {
        for (int block = 0; block < program.blocks; block++) {
            program.turnFirstComputesToUses(block, sets.deletedInBlock[block]);
        }
    }

    private void insertComputations() {
        // The edges that splitting adds have no insertions of their own.
        int edgesBefore = program.edges;
        for (int edge = 0; edge < edgesBefore; edge++) {
            if (sets.insertedOnEdge[edge] != 0) {
                program.splitEdge(edge, sets.insertedOnEdge[edge]);
            }
        }
    }

    /** Expressions, blocks and edges. Its callers have looked at all numbers and limits before. */
    private static final class Program {
        int expressions = 0;
        final int[] variablesOf = new int[MOST_EXPRESSIONS];
        /** For each variable, the set of the expressions that depend on it. */
        final int[] dependents = new int[VARIABLES];

        int blocks = 1;
        final int[] sizes = new int[MOST_BLOCKS];
        private final int[] codes = new int[MOST_BLOCKS * MOST_INSTRUCTIONS];

        int edges = 0;
        final int[] from = new int[MOST_EDGES];
        final int[] to = new int[MOST_EDGES];
        final int[] firstExit = new int[MOST_BLOCKS];
        final int[] secondExit = new int[MOST_BLOCKS];

        /** Whether the program is another one than the one whose sets were found last. */
        boolean changed = true;

        Program() {
            for (int block = 0; block < MOST_BLOCKS; block++) {
                firstExit[block] = NONE;
                secondExit[block] = NONE;
            }
        }

        int allExpressions() {
            return (1 << expressions) - 1;
        }

        int newExpression(int variables) {
            int expression = expressions;
            variablesOf[expression] = variables;
            for (int variable = 0; variable < VARIABLES; variable++) {
                if ((variables >> variable & 1) != 0) {
                    dependents[variable] |= 1 << expression;
                }
            }
            expressions++;
            changed = true;
            return expression;
        }

        int newBlock() {
            int block = blocks;
            blocks++;
            changed = true;
            return block;
        }

        boolean hasEdge(int start, int target) {
            int first = firstExit[start];
            int second = secondExit[start];
            return first != NONE && to[first] == target || second != NONE && to[second] == target;
        }

        int newEdge(int start, int target) {
            int edge = edges;
            from[edge] = start;
            to[edge] = target;
            if (firstExit[start] == NONE) {
                firstExit[start] = edge;
            } else {
                secondExit[start] = edge;
            }
            edges++;
            changed = true;
            return edge;
        }

        int endsOf(int edge) {
            return MOST_BLOCKS * from[edge] + to[edge];
        }

        int codeAt(int block, int index) {
            return codes[block * MOST_INSTRUCTIONS + index];
        }

        int append(int block, int kind, int subject) {
            codes[block * MOST_INSTRUCTIONS + sizes[block]] = KINDS * subject + kind;
            sizes[block]++;
            changed = true;
            return sizes[block];
        }

        int removeLast(int block) {
            sizes[block]--;
            changed = true;
            return sizes[block];
        }

        void turnFirstComputesToUses(int block, int set) {
            int left = set;
            for (int index = 0; index < sizes[block]; index++) {
                int code = codeAt(block, index);
                int bit = 1 << code / KINDS;
                if (code % KINDS == COMPUTE && (left & bit) != 0) {
                    codes[block * MOST_INSTRUCTIONS + index] = code - COMPUTE + USE;
                    left &= ~bit;
                    changed = true;
                }
            }
        }

        void splitEdge(int edge, int set) {
            int between = newBlock();
            for (int expression = 0; expression < expressions; expression++) {
                if ((set >> expression & 1) != 0) {
                    append(between, COMPUTE, expression);
                }
            }
            int target = to[edge];
            to[edge] = between;
            newEdge(between, target);
        }

        long addToChecksum(long start) {
            long sum = start * 31L + expressions;
            for (int expression = 0; expression < expressions; expression++) {
                sum = sum * 31L + variablesOf[expression];
            }
            sum = sum * 31L + blocks;
            for (int block = 0; block < blocks; block++) {
                sum = sum * 31L + sizes[block];
                for (int index = 0; index < sizes[block]; index++) {
                    sum = sum * 31L + codeAt(block, index);
                }
            }
            sum = sum * 31L + edges;
            for (int edge = 0; edge < edges; edge++) {
                sum = sum * 31L + endsOf(edge);
            }
            return sum;
        }
    }

    /**
     * The sets of all blocks and edges of a program.
     *
     * <p>The greatest sets are found from above: they start as large as they can be, and each edge
     * takes from the set at one of its ends what its other end does not allow, until none does.
     */
    private static final class Sets {
        private final Program program;

        final int[] keptIn = new int[MOST_BLOCKS];
        final int[] earlyIn = new int[MOST_BLOCKS];
        final int[] lateIn = new int[MOST_BLOCKS];
        final int[] neededAtStart = new int[MOST_BLOCKS];
        final int[] neededAtEnd = new int[MOST_BLOCKS];
        final int[] thereAtStart = new int[MOST_BLOCKS];
        final int[] thereAtEnd = new int[MOST_BLOCKS];
        final int[] delayedAtStart = new int[MOST_BLOCKS];
        final int[] deletedInBlock = new int[MOST_BLOCKS];
        final int[] earliestOnEdge = new int[MOST_EDGES];
        final int[] delayedOnEdge = new int[MOST_EDGES];
        final int[] insertedOnEdge = new int[MOST_EDGES];

        Sets(Program program) {
            this.program = program;
        }

        void bringUpToDate() {
            if (!program.changed) {
                return;
            }
            for (int block = 0; block < program.blocks; block++) {
                findSetsOfBlock(block);
            }
            findNeeded();
            findThere();
            findEarliest();
            findDelayed();
            findInsertionsAndDeletions();
            program.changed = false;
        }

        int countEdgesWithInsertions() {
            int count = 0;
            for (int edge = 0; edge < program.edges; edge++) {
                if (insertedOnEdge[edge] != 0) {
                    count++;
                }
            }
            return count;
        }

        private void findSetsOfBlock(int block) {
            int lost = 0;
            int early = 0;
            int late = 0;
            for (int index = 0; index < program.sizes[block]; index++) {
                int code = program.codeAt(block, index);
                int subject = code / KINDS;
                int kind = code % KINDS;
                if (kind == COMPUTE) {
                    early |= 1 << subject & ~lost;
                    late |= 1 << subject;
                } else if (kind == ASSIGN) {
                    lost |= program.dependents[subject];
                    late &= ~program.dependents[subject];
                }
            }
            keptIn[block] = program.allExpressions() & ~lost;
            earlyIn[block] = early;
            lateIn[block] = late;
        }

        private void findNeeded() {
            for (int block = 0; block < program.blocks; block++) {
                boolean leadsOn = program.firstExit[block] != NONE;
                setNeededAtEnd(block, leadsOn ? program.allExpressions() : 0);
            }
            boolean shrunk = true;
            for (int round = 0; round < MOST_ROUNDS && shrunk; round++) {
                shrunk = shrinkNeeded();
            }
        }

        private boolean shrinkNeeded() {
            boolean shrunk = false;
            // Needs go against the edges, so the last edges come first to save rounds.
            for (int edge = program.edges - 1; edge >= 0; edge--) {
                int block = program.from[edge];
                int rest = neededAtEnd[block] & neededAtStart[program.to[edge]];
                if (rest != neededAtEnd[block]) {
                    setNeededAtEnd(block, rest);
                    shrunk = true;
                }
            }
            return shrunk;
        }

        private void setNeededAtEnd(int block, int set) {
            neededAtEnd[block] = set;
            neededAtStart[block] = earlyIn[block] | keptIn[block] & set;
        }

        private void findThere() {
            fillWhereEdgesLead(thereAtStart);
            for (int block = 0; block < program.blocks; block++) {
                setThereAtStart(block, thereAtStart[block]);
            }
            boolean shrunk = true;
            for (int round = 0; round < MOST_ROUNDS && shrunk; round++) {
                shrunk = shrinkThere();
            }
        }

        private boolean shrinkThere() {
            boolean shrunk = false;
            for (int edge = 0; edge < program.edges; edge++) {
                int block = program.to[edge];
                int rest = thereAtStart[block] & thereAtEnd[program.from[edge]];
                if (rest != thereAtStart[block]) {
                    setThereAtStart(block, rest);
                    shrunk = true;
                }
            }
            return shrunk;
        }

        private void setThereAtStart(int block, int set) {
            thereAtStart[block] = set;
            thereAtEnd[block] = lateIn[block] | keptIn[block] & set;
        }

        /** All expressions for blocks to which edges lead, the empty set for the others. */
        private void fillWhereEdgesLead(int[] row) {
            for (int block = 0; block < program.blocks; block++) {
                row[block] = 0;
            }
            for (int edge = 0; edge < program.edges; edge++) {
                row[program.to[edge]] = program.allExpressions();
            }
        }

        private void findEarliest() {
            for (int edge = 0; edge < program.edges; edge++) {
                int start = program.from[edge];
                int wanted = neededAtStart[program.to[edge]] & ~thereAtEnd[start];
                earliestOnEdge[edge] = wanted & ~(keptIn[start] & neededAtEnd[start]);
            }
        }

        private void findDelayed() {
            fillWhereEdgesLead(delayedAtStart);
            delayedAtStart[0] = neededAtStart[0];
            boolean shrunk = true;
            for (int round = 0; round < MOST_ROUNDS && shrunk; round++) {
                shrunk = shrinkDelayed();
            }
            for (int edge = 0; edge < program.edges; edge++) {
                delayedOnEdge[edge] = findDelayedOnEdge(edge);
            }
        }

        private boolean shrinkDelayed() {
            boolean shrunk = false;
            for (int edge = 0; edge < program.edges; edge++) {
                int block = program.to[edge];
                int rest = delayedAtStart[block] & findDelayedOnEdge(edge);
                if (rest != delayedAtStart[block]) {
                    delayedAtStart[block] = rest;
                    shrunk = true;
                }
            }
            return shrunk;
        }

        private int findDelayedOnEdge(int edge) {
            int start = program.from[edge];
            return earliestOnEdge[edge] | delayedAtStart[start] & ~earlyIn[start];
        }

        private void findInsertionsAndDeletions() {
            for (int edge = 0; edge < program.edges; edge++) {
                insertedOnEdge[edge] = delayedOnEdge[edge] & ~delayedAtStart[program.to[edge]];
            }
            for (int block = 0; block < program.blocks; block++) {
                deletedInBlock[block] = earlyIn[block] & ~delayedAtStart[block];
            }
        }
    }

    /** What the latest walk told. */
    private static final class Journey {
        private final Program program;

        final int[] timesComputed = new int[MOST_EXPRESSIONS];
        final int[] timesHeld = new int[MOST_EXPRESSIONS];
        int missCount = 0;
        int endBlock = NONE;

        /** The set of the expressions whose values are held. */
        private int held = 0;
        /** For each held expression, how many instructions were gone through when that began. */
        private final int[] heldSince = new int[MOST_EXPRESSIONS];
        private int instructionsGone = 0;
        private int choicesTaken = 0;

        Journey(Program program) {
            this.program = program;
        }

        int goThrough(long choices, int most) {
            begin();
            int gone = 0;
            int next = 0;
            while (gone < most && next != NONE) {
                goThroughBlock(next);
                endBlock = next;
                next = blockBehind(next, choices);
                gone++;
            }
            letGo(held);
            return gone;
        }

        private void begin() {
            for (int expression = 0; expression < MOST_EXPRESSIONS; expression++) {
                timesComputed[expression] = 0;
                timesHeld[expression] = 0;
            }
            missCount = 0;
            held = 0;
            instructionsGone = 0;
            choicesTaken = 0;
        }

        private void goThroughBlock(int block) {
            for (int index = 0; index < program.sizes[block]; index++) {
                int code = program.codeAt(block, index);
                int subject = code / KINDS;
                int kind = code % KINDS;
                instructionsGone++;
                if (kind == COMPUTE) {
                    hold(subject);
                } else if (kind == ASSIGN) {
                    letGo(held & program.dependents[subject]);
                } else if ((held >> subject & 1) == 0) {
                    missCount++;
                }
            }
        }

        private void hold(int expression) {
            timesComputed[expression]++;
            if ((held >> expression & 1) == 0) {
                held |= 1 << expression;
                heldSince[expression] = instructionsGone;
            }
        }

        /** The instruction that is gone through now still has the values ahead of it. */
        private void letGo(int set) {
            for (int expression = 0; expression < program.expressions; expression++) {
                if ((set >> expression & 1) != 0) {
                    timesHeld[expression] += instructionsGone - heldSince[expression];
                }
            }
            held &= ~set;
        }

        private int blockBehind(int block, long choices) {
            int exit = program.firstExit[block];
            if (program.secondExit[block] != NONE) {
                if ((choices >>> (choicesTaken & 63) & 1L) != 0L) {
                    exit = program.secondExit[block];
                }
                choicesTaken++;
            }
            return exit == NONE ? NONE : program.to[exit];
        }
    }
}
