/** Counts and prints the answers that are not as due. */
final class Checks {
    interface Call {
        long answer();
    }

    private final String name;
    private int made = 0;
    private int wrong = 0;

    Checks(String name) {
        this.name = name;
    }

    void same(String what, long due, long got) {
        made++;
        if (got != due) {
            report(what + " answered " + got + ", due is " + due);
        }
    }

    void holds(String what, boolean truth) {
        made++;
        if (!truth) {
            report(what + " does not hold");
        }
    }

    /** The exception must be of just this class: what the machine throws is of another one. */
    void refused(String what, CodeMover mover, Class<? extends RuntimeException> due, Call call) {
        made++;
        long before = mover.digest();
        try {
            report(what + " answered " + call.answer() + ", due is " + due.getName());
        } catch (RuntimeException thrown) {
            if (thrown.getClass() != due) {
                report(what + " threw " + thrown + ", due is " + due.getName());
            }
        }
        same(what + ": the digest behind it", before, mover.digest());
    }


    void report(String text) {
        wrong++;
        if (wrong <= 40) {
            System.out.println(name + ": " + text);
        }
    }

    void end() {
        System.out.println(name + ": " + made + " checks, " + wrong + " wrong");
        if (wrong != 0) {
            System.exit(1);
        }
    }
}
