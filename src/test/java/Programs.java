/** Objects for tests to start with. */
final class Programs {
    private Programs() {
    }

    /** Blocks without instructions and edges, and an expression for each set of variables. */
    static CodeMover of(int blocks, int... variables) {
        CodeMover mover = new CodeMover();
        for (int block = 1; block < blocks; block++) {
            mover.addBlock();
        }
        for (int set : variables) {
            mover.addExpression(set);
        }
        return mover;
    }
}
