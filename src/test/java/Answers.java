import java.util.ArrayList;
import java.util.List;
import java.util.function.Supplier;

/**
 * Everything that can be asked of an object, a text for each question.
 *
 * <p>An object is good for 512 calls, so the questions go to several objects that are made alike.
 */
final class Answers {
    private static final int QUESTIONS_EACH = 200;
    private static final int EXPRESSIONS = 8;

    private interface Question {
        long to(CodeMover mover);
    }

    private final Supplier<CodeMover> source;
    private final List<String> texts = new ArrayList<>();
    private CodeMover mover;
    private int asked = 0;

    private Answers(Supplier<CodeMover> source) {
        this.source = source;
        mover = source.get();
    }

    static List<String> of(Supplier<CodeMover> source) {
        Answers answers = new Answers(source);
        int blocks = answers.mover.blockCount();
        int edges = answers.mover.edgeCount();
        answers.askOfAll();
        for (int block = 0; block <= blocks; block++) {
            answers.askOfBlock(block);
        }
        for (int edge = 0; edge <= edges; edge++) {
            answers.askOfEdge(edge);
        }
        for (int expression = 0; expression <= EXPRESSIONS; expression++) {
            answers.askOfExpression(expression);
        }
        return answers.texts;
    }

    private void askOfAll() {
        ask("digest()", CodeMover::digest);
        ask("blockCount()", CodeMover::blockCount);
        ask("edgeCount()", CodeMover::edgeCount);
        ask("misses()", CodeMover::misses);
        ask("lastBlock()", CodeMover::lastBlock);
    }

    private void askOfBlock(int b) {
        String at = "(" + b + ")";
        ask("size" + at, x -> x.size(b));
        for (int index = 0; index == 0 || index <= sizeOf(b); index++) {
            int i = index;
            ask("instruction(" + b + ", " + i + ")", x -> x.instruction(b, i));
        }
        ask("kept" + at, x -> x.kept(b));
        ask("early" + at, x -> x.early(b));
        ask("late" + at, x -> x.late(b));
        ask("needed at the beginning" + at, x -> x.needed(b, false));
        ask("needed at the end" + at, x -> x.needed(b, true));
        ask("there at the beginning" + at, x -> x.there(b, false));
        ask("there at the end" + at, x -> x.there(b, true));
        ask("delayedAt" + at, x -> x.delayedAt(b));
        ask("deletions" + at, x -> x.deletions(b));
    }

    private int sizeOf(int block) {
        asked += 2;
        return block < mover.blockCount() ? mover.size(block) : 0;
    }

    private void askOfEdge(int e) {
        ask("ends(" + e + ")", x -> x.ends(e));
        ask("earliest(" + e + ")", x -> x.earliest(e));
        ask("delayedOn(" + e + ")", x -> x.delayedOn(e));
        ask("insertions(" + e + ")", x -> x.insertions(e));
    }

    private void askOfExpression(int e) {
        ask("computed(" + e + ")", x -> x.computed(e));
        ask("heldFor(" + e + ")", x -> x.heldFor(e));
    }

    private void ask(String text, Question question) {
        if (asked >= QUESTIONS_EACH) {
            mover = source.get();
            asked = 0;
        }
        asked++;
        texts.add(text + " answers " + answer(question));
    }

    private String answer(Question question) {
        try {
            return Long.toString(question.to(mover));
        } catch (RuntimeException thrown) {
            return thrown.getClass().getName();
        }
    }
}
