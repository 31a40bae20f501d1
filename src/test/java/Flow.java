/**
 * A ConstantFlow whose calls are counted: the document promises nothing of the 513th, so that no
 * test may rest on it.
 */
final class Flow {
    static final int CALLS_MOST = 512;

    private final ConstantFlow flow = new ConstantFlow();
    private int calls;

    private ConstantFlow called() {
        calls++;
        if (calls > CALLS_MOST) {
            throw new AssertionError("the test makes more than 512 calls of one object");
        }
        return flow;
    }

    int calls() {
        return calls;
    }

    int feed(int n, long bytes) {
        return called().feed(n, bytes);
    }

    int wipe() {
        return called().wipe();
    }

    int read() {
        return called().read();
    }

    int fault() {
        return called().fault();
    }

    int place() {
        return called().place();
    }

    boolean comes(int block) {
        return called().comes(block);
    }

    int known(int block, int variable, boolean end) {
        return called().known(block, variable, end);
    }

    int number(int block, int variable, boolean end) {
        return called().number(block, variable, end);
    }

    int told(int what) {
        return called().told(what);
    }

    int write() {
        return called().write();
    }

    long written(int i) {
        return called().written(i);
    }

    int take() {
        return called().take();
    }

    int input(int v) {
        return called().input(v);
    }

    int clear() {
        return called().clear();
    }

    int run(int steps) {
        return called().run(steps);
    }

    int value(int variable) {
        return called().value(variable);
    }

    int asked() {
        return called().asked();
    }
}
