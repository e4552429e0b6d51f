import java.util.ArrayList;
import java.util.Arrays;
import java.util.HashMap;
import java.util.List;
import java.util.Map;
import java.util.function.IntPredicate;
import java.util.function.Supplier;

/**
 * The document's words, written down as plainly as can be: lists, and sets of one expression at a
 * time. It shares no code and no way of finding sets with the class.
 */
final class Model {
    private record Instruction(char kind, int subject) {}

    private static final class Edge {
        final int from;
        int to;

        Edge(int from, int to) {
            this.from = from;
            this.to = to;
        }
    }

    private final List<Integer> expressions = new ArrayList<>();
    private final List<List<Instruction>> blocks = new ArrayList<>();
    private final List<Edge> edges = new ArrayList<>();
    /** Sets that were found since the program changed last. */
    private final Map<String, boolean[]> found = new HashMap<>();
    private int[] computed = new int[8];
    private int[] heldFor = new int[8];
    private int misses = 0;
    private int lastBlock = -1;

    Model() {
        blocks.add(new ArrayList<>());
    }

    int addExpression(int variables) {
        if (variables < 0 || variables > 63) {
            throw new IllegalArgumentException();
        }
        stateUnless(expressions.size() < 8);
        found.clear();
        expressions.add(variables);
        return expressions.size() - 1;
    }

    int addBlock() {
        stateUnless(blocks.size() < 40);
        found.clear();
        blocks.add(new ArrayList<>());
        return blocks.size() - 1;
    }

    int addEdge(int from, int to) {
        blockAt(from);
        blockAt(to);
        if (to == 0 || edges.stream().anyMatch(e -> e.from == from && e.to == to)) {
            throw new IllegalArgumentException();
        }
        stateUnless(exits(from).size() < 2 && edges.size() < 80);
        found.clear();
        edges.add(new Edge(from, to));
        return edges.size() - 1;
    }

    int append(char kind, int block, int subject) {
        blockAt(block);
        indexUnless(subject >= 0 && subject < (kind == 'A' ? 6 : expressions.size()));
        stateUnless(blockAt(block).size() < 12);
        found.clear();
        blockAt(block).add(new Instruction(kind, subject));
        return blockAt(block).size();
    }

    int drop(int block) {
        stateUnless(!blockAt(block).isEmpty());
        found.clear();
        blockAt(block).remove(blockAt(block).size() - 1);
        return blockAt(block).size();
    }

    int blockCount() {
        return blocks.size();
    }

    int edgeCount() {
        return edges.size();
    }

    int expressionCount() {
        return expressions.size();
    }

    int size(int block) {
        return blockAt(block).size();
    }

    int instruction(int block, int index) {
        indexUnless(index >= 0 && index < blockAt(block).size());
        Instruction i = blockAt(block).get(index);
        return 3 * i.subject + "CUA".indexOf(i.kind);
    }

    int ends(int edge) {
        return 40 * edgeAt(edge).from + edgeAt(edge).to;
    }

    int kept(int block) {
        blockAt(block);
        return set(e -> isKept(block, e));
    }

    int early(int block) {
        blockAt(block);
        return set(e -> isEarly(block, e));
    }

    int late(int block) {
        blockAt(block);
        return set(e -> isLate(block, e));
    }

    int needed(int block, boolean atEnd) {
        blockAt(block);
        return set(e -> (atEnd ? neededAtEnd(e) : neededAtStart(e))[block]);
    }

    int there(int block, boolean atEnd) {
        blockAt(block);
        return set(e -> (atEnd ? thereAtEnd(e) : thereAtStart(e))[block]);
    }

    int earliest(int edge) {
        edgeAt(edge);
        return set(e -> isEarliest(e)[edge]);
    }

    int delayedOn(int edge) {
        edgeAt(edge);
        return set(e -> delayedOnEdges(e)[edge]);
    }

    int delayedAt(int block) {
        blockAt(block);
        return set(e -> delayedAtStart(e)[block]);
    }

    int insertions(int edge) {
        return delayedOn(edge) & ~delayedAt(edgeAt(edge).to);
    }

    int deletions(int block) {
        return early(block) & ~delayedAt(block);
    }

    int move() {
        int[] insertions = new int[edges.size()];
        int[] deletions = new int[blocks.size()];
        for (int edge = 0; edge < insertions.length; edge++) {
            insertions[edge] = insertions(edge);
        }
        for (int block = 0; block < deletions.length; block++) {
            deletions[block] = deletions(block);
        }
        int more = (int) Arrays.stream(insertions).filter(set -> set != 0).count();
        stateUnless(blocks.size() + more <= 40 && edges.size() + more <= 80);
        found.clear();
        for (int block = 0; block < deletions.length; block++) {
            for (int e = 0; e < expressions.size(); e++) {
                if ((deletions[block] >> e & 1) == 1) {
                    int first = blocks.get(block).indexOf(new Instruction('C', e));
                    blocks.get(block).set(first, new Instruction('U', e));
                }
            }
        }
        for (int edge = 0; edge < insertions.length; edge++) {
            if (insertions[edge] != 0) {
                List<Instruction> between = new ArrayList<>();
                for (int e = 0; e < expressions.size(); e++) {
                    if ((insertions[edge] >> e & 1) == 1) {
                        between.add(new Instruction('C', e));
                    }
                }
                blocks.add(between);
                edges.add(new Edge(blocks.size() - 1, edges.get(edge).to));
                edges.get(edge).to = blocks.size() - 1;
            }
        }
        return more;
    }

    int walk(long choices, int most) {
        if (most < 1 || most > 1000) {
            throw new IllegalArgumentException();
        }
        List<Integer> path = path(choices, most);
        computed = new int[8];
        heldFor = new int[8];
        misses = 0;
        lastBlock = path.get(path.size() - 1);
        boolean[] held = new boolean[8];
        for (int block : path) {
            for (Instruction i : blocks.get(block)) {
                for (int e = 0; e < expressions.size(); e++) {
                    heldFor[e] += held[e] ? 1 : 0;
                }
                step(i, held);
            }
        }
        return path.size();
    }

    private List<Integer> path(long choices, int most) {
        List<Integer> path = new ArrayList<>(List.of(0));
        int bit = 0;
        while (path.size() < most) {
            List<Edge> exits = exits(path.get(path.size() - 1));
            if (exits.isEmpty()) {
                break;
            }
            int exit = 0;
            if (exits.size() == 2) {
                exit = (choices & 1L << bit) == 0 ? 0 : 1;
                bit = bit == 63 ? 0 : bit + 1;
            }
            path.add(exits.get(exit).to);
        }
        return path;
    }

    private void step(Instruction i, boolean[] held) {
        switch (i.kind) {
            case 'C' -> {
                computed[i.subject]++;
                held[i.subject] = true;
            }
            case 'U' -> misses += held[i.subject] ? 0 : 1;
            default -> {
                for (int e = 0; e < expressions.size(); e++) {
                    held[e] = held[e] && !depends(e, i.subject);
                }
            }
        }
    }

    int computed(int expression) {
        indexUnless(expression >= 0 && expression < expressions.size());
        return computed[expression];
    }

    int misses() {
        return misses;
    }

    int lastBlock() {
        return lastBlock;
    }

    int heldFor(int expression) {
        indexUnless(expression >= 0 && expression < expressions.size());
        return heldFor[expression];
    }

    long digest() {
        List<Integer> numbers = new ArrayList<>();
        numbers.add(expressions.size());
        numbers.addAll(expressions);
        numbers.add(blocks.size());
        for (int block = 0; block < blocks.size(); block++) {
            numbers.add(size(block));
            for (int index = 0; index < size(block); index++) {
                numbers.add(instruction(block, index));
            }
        }
        numbers.add(edges.size());
        for (int edge = 0; edge < edges.size(); edge++) {
            numbers.add(ends(edge));
        }
        numbers.add(misses);
        numbers.add(lastBlock);
        long d = 83;
        for (int x : numbers) {
            d = d * 31 + x;
        }
        return d;
    }

    private int set(IntPredicate member) {
        int sum = 0;
        for (int e = 0; e < expressions.size(); e++) {
            sum += member.test(e) ? 1 << e : 0;
        }
        return sum;
    }

    private boolean depends(int expression, int variable) {
        return (expressions.get(expression) & 1 << variable) != 0;
    }

    private boolean destroys(Instruction i, int expression) {
        return i.kind == 'A' && depends(expression, i.subject);
    }

    private boolean isKept(int block, int e) {
        return once("isKept" + e, () -> perBlock(b -> findKept(b, e)))[block];
    }

    private boolean isEarly(int block, int e) {
        return once("isEarly" + e, () -> perBlock(b -> findEarly(b, e)))[block];
    }

    private boolean isLate(int block, int e) {
        return once("isLate" + e, () -> perBlock(b -> findLate(b, e)))[block];
    }

    private boolean findKept(int block, int e) {
        return blocks.get(block).stream().noneMatch(i -> destroys(i, e));
    }

    private boolean findEarly(int block, int e) {
        int first = blocks.get(block).indexOf(new Instruction('C', e));
        return first >= 0
                && blocks.get(block).subList(0, first).stream().noneMatch(i -> destroys(i, e));
    }

    private boolean findLate(int block, int e) {
        List<Instruction> all = blocks.get(block);
        int last = all.lastIndexOf(new Instruction('C', e));
        return last >= 0
                && all.subList(last, all.size()).stream().noneMatch(i -> destroys(i, e));
    }

    private List<Edge> exits(int block) {
        return edges.stream().filter(e -> e.from == block).toList();
    }

    private List<Integer> edgesTo(int block) {
        List<Integer> all = new ArrayList<>();
        for (int edge = 0; edge < edges.size(); edge++) {
            if (edges.get(edge).to == block) {
                all.add(edge);
            }
        }
        return all;
    }

    private boolean[] neededAtStart(int e) {
        return once("neededAtStart" + e, () -> greatest(start -> {
            boolean[] end = neededEnds(start);
            return perBlock(b -> isEarly(b, e) || isKept(b, e) && end[b]);
        }));
    }

    private boolean[] neededAtEnd(int e) {
        return neededEnds(neededAtStart(e));
    }

    private boolean[] neededEnds(boolean[] start) {
        return perBlock(b -> !exits(b).isEmpty() && exits(b).stream().allMatch(x -> start[x.to]));
    }

    private boolean[] thereAtStart(int e) {
        return once("thereAtStart" + e, () -> greatest(start -> {
            boolean[] end = thereEnds(start, e);
            return perBlock(b -> b != 0 && !edgesTo(b).isEmpty()
                    && edgesTo(b).stream().allMatch(x -> end[edges.get(x).from]));
        }));
    }

    private boolean[] thereAtEnd(int e) {
        return thereEnds(thereAtStart(e), e);
    }

    private boolean[] thereEnds(boolean[] start, int e) {
        return perBlock(b -> isLate(b, e) || isKept(b, e) && start[b]);
    }

    private boolean[] isEarliest(int e) {
        return once("isEarliest" + e, () -> findEarliest(e));
    }

    private boolean[] findEarliest(int e) {
        boolean[] neededAtStart = neededAtStart(e);
        boolean[] neededAtEnd = neededAtEnd(e);
        boolean[] thereAtEnd = thereAtEnd(e);
        boolean[] answer = new boolean[edges.size()];
        for (int i = 0; i < answer.length; i++) {
            int b = edges.get(i).from;
            answer[i] = neededAtStart[edges.get(i).to] && !thereAtEnd[b]
                    && (!isKept(b, e) || !neededAtEnd[b]);
        }
        return answer;
    }

    private boolean[] delayedAtStart(int e) {
        boolean[] earliest = isEarliest(e);
        boolean[] needed = neededAtStart(e);
        return once("delayedAtStart" + e, () -> greatest(start -> {
            boolean[] on = delayedOnEdges(earliest, start, e);
            return perBlock(c -> c == 0 ? needed[0]
                    : !edgesTo(c).isEmpty() && edgesTo(c).stream().allMatch(x -> on[x]));
        }));
    }

    private boolean[] once(String name, Supplier<boolean[]> finder) {
        boolean[] answer = found.get(name);
        if (answer == null) {
            answer = finder.get();
            found.put(name, answer);
        }
        return answer;
    }

    private boolean[] delayedOnEdges(int e) {
        return once("delayedOnEdges" + e,
                () -> delayedOnEdges(isEarliest(e), delayedAtStart(e), e));
    }

    private boolean[] delayedOnEdges(boolean[] earliest, boolean[] start, int e) {
        boolean[] answer = new boolean[edges.size()];
        for (int i = 0; i < answer.length; i++) {
            int b = edges.get(i).from;
            answer[i] = earliest[i] || start[b] && !isEarly(b, e);
        }
        return answer;
    }

    private interface Equations {
        boolean[] rightSides(boolean[] sets);
    }

    private boolean[] greatest(Equations equations) {
        boolean[] sets = perBlock(b -> true);
        boolean[] next = equations.rightSides(sets);
        while (!Arrays.equals(sets, next)) {
            sets = next;
            next = equations.rightSides(sets);
        }
        return sets;
    }

    private boolean[] perBlock(IntPredicate member) {
        boolean[] answer = new boolean[blocks.size()];
        for (int b = 0; b < answer.length; b++) {
            answer[b] = member.test(b);
        }
        return answer;
    }

    private List<Instruction> blockAt(int block) {
        indexUnless(block >= 0 && block < blocks.size());
        return blocks.get(block);
    }

    private Edge edgeAt(int edge) {
        indexUnless(edge >= 0 && edge < edges.size());
        return edges.get(edge);
    }

    private static void indexUnless(boolean right) {
        if (!right) {
            throw new IndexOutOfBoundsException();
        }
    }

    private static void stateUnless(boolean right) {
        if (!right) {
            throw new IllegalStateException();
        }
    }
}
