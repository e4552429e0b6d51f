/** Promise 30: the checksum. */
final class DigestTest {
    private static final Checks CHECKS = new Checks("DigestTest");

    public static void main(String[] args) {
        newObject();
        everyPart();
        queriesChangeNothing();
        CHECKS.end();
    }

    private static void newObject() {
        CHECKS.same("digest()", sum(0, 1, 0, 0, 0, -1), new CodeMover().digest());
    }

    private static void everyPart() {
        CodeMover x = new CodeMover();
        x.addExpression(63);
        CHECKS.same("an expression", sum(1, 63, 1, 0, 0, 0, -1), x.digest());
        x.addExpression(0);
        CHECKS.same("another one", sum(2, 63, 0, 1, 0, 0, 0, -1), x.digest());
        x.addBlock();
        CHECKS.same("a block", sum(2, 63, 0, 2, 0, 0, 0, 0, -1), x.digest());
        x.compute(1, 1);
        x.use(0, 1);
        x.assign(1, 5);
        CHECKS.same("instructions", sum(2, 63, 0, 2, 1, 4, 2, 3, 17, 0, 0, -1), x.digest());
        x.addEdge(1, 1);
        x.addEdge(0, 1);
        CHECKS.same("edges", sum(2, 63, 0, 2, 1, 4, 2, 3, 17, 2, 41, 1, 0, -1), x.digest());
        x.walk(0L, 4);
        CHECKS.same("a walk", sum(2, 63, 0, 2, 1, 4, 2, 3, 17, 2, 41, 1, 1, 1), x.digest());
        x.drop(1);
        CHECKS.same("a drop", sum(2, 63, 0, 2, 1, 4, 1, 3, 2, 41, 1, 1, 1), x.digest());
    }

    private static void queriesChangeNothing() {
        CodeMover x = new CodeMover();
        x.addExpression(1);
        x.addBlock();
        x.addEdge(0, 1);
        x.compute(1, 0);
        long due = x.digest();
        x.kept(0);
        x.needed(0, true);
        x.there(1, false);
        x.earliest(0);
        x.delayedOn(0);
        x.insertions(0);
        x.deletions(1);
        x.instruction(1, 0);
        CHECKS.same("digest()", due, x.digest());
        CHECKS.same("digest() again", due, x.digest());
    }

    private static long sum(long... numbers) {
        long d = 83;
        for (long x : numbers) {
            d = d * 31 + x;
        }
        return d;
    }
}
