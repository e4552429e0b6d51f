import java.util.List;
import java.util.function.Supplier;

/** Counts and prints the answers that are not as due. */
final class Checks {
    interface Call {
        long answer();
    }

    interface Refusal {
        long answerOf(CodeMover mover);
    }

    private final String name;
    private int made = 0;
    private int wrong = 0;

    Checks(String name) {
        this.name = name;
    }

    void same(String what, long due, long got) {
        made++;
        if (got != due) {
            report(what + " answered " + got + ", due is " + due);
        }
    }

    void holds(String what, boolean truth) {
        made++;
        if (!truth) {
            report(what + " does not hold");
        }
    }

    /** The exception must be of just this class: what the machine throws is of another one. */
    void refused(String what, CodeMover mover, Class<? extends RuntimeException> due, Call call) {
        made++;
        long before = mover.digest();
        try {
            report(what + " answered " + call.answer() + ", due is " + due.getName());
        } catch (RuntimeException thrown) {
            if (thrown.getClass() != due) {
                report(what + " threw " + thrown + ", due is " + due.getName());
            }
        }
        same(what + ": the digest behind it", before, mover.digest());
    }

    /**
     * The call is refused, and all that can be asked behind it is answered as if it had not been
     * made, whether the sets were asked for before it or not.
     */
    void changesNothing(String what, Supplier<CodeMover> source,
            Class<? extends RuntimeException> due, Refusal call) {
        List<String> without = Answers.of(source);
        compare(what, without, Answers.of(() -> callRefused(what, source.get(), due, call)));
        compare(what + " behind a question", without, Answers.of(() -> {
            CodeMover asked = source.get();
            asked.deletions(0);
            return callRefused(what, asked, due, call);
        }));
    }

    private CodeMover callRefused(String what, CodeMover mover,
            Class<? extends RuntimeException> due, Refusal call) {
        refused(what, mover, due, () -> call.answerOf(mover));
        return mover;
    }

    private void compare(String what, List<String> due, List<String> got) {
        same(what + ": questions behind it", due.size(), got.size());
        for (int i = 0; i < due.size() && i < got.size(); i++) {
            holds(what + ": " + due.get(i) + " (not: " + got.get(i) + ")",
                    due.get(i).equals(got.get(i)));
        }
    }

    void report(String text) {
        wrong++;
        if (wrong <= 40) {
            System.out.println(name + ": " + text);
        }
    }

    void end() {
        System.out.println(name + ": " + made + " checks, " + wrong + " wrong");
        if (wrong != 0) {
            System.exit(1);
        }
    }
}
