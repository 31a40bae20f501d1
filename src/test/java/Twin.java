import java.util.ArrayList;
import java.util.List;

/** An object by the document's words, with a Model for its program; asked call by call. */
final class Twin {
    private static final int NONE = ConstantFlow.NONE;

    private String tape = "";
    private Model program = new Model(".");
    private Model lastRead = program;
    private String lastWritten = "";
    private final List<Integer> inputs = new ArrayList<>();
    private String[] lastRun = {"", "0 0 0 0 0 0 0 0", "0"};

    private static void demand(boolean holds, RuntimeException otherwise) {
        if (!holds) {
            throw otherwise;
        }
    }

    private static boolean within(int i, int bound) {
        return i >= 0 && i < bound;
    }

    int blocks() {
        return program.blocks.size();
    }

    int feed(int n, long bytes) {
        demand(n >= 1 && n <= 8, new IllegalArgumentException());
        if (tape.length() + n > 700) {
            return NONE;
        }
        for (int i = 0; i < n; i++) {
            tape += (char) (bytes >> 8 * i & 255);
        }
        return tape.length();
    }

    int wipe() {
        int had = tape.length();
        tape = "";
        return had;
    }

    int read() {
        lastRead = new Model(tape);
        program = lastRead.fault == 0 ? lastRead : program;
        return lastRead.fault == 0 ? blocks() : NONE;
    }

    int fault() {
        return lastRead.fault;
    }

    int place() {
        return lastRead.place;
    }

    boolean comes(int block) {
        demand(within(block, blocks()), new IndexOutOfBoundsException());
        return program.beginnings[block] != null;
    }

    private String fact(int block, int variable, boolean end) {
        demand(within(block, blocks()) && within(variable, 8), new IndexOutOfBoundsException());
        return program.facts(block, end).split(" ")[variable];
    }

    int known(int block, int variable, boolean end) {
        String fact = fact(block, variable, end);
        return fact.equals("-") ? 0 : fact.equals("?") ? ConstantFlow.ANY : 1;
    }

    int number(int block, int variable, boolean end) {
        demand(known(block, variable, end) == 1, new IllegalStateException());
        return Integer.parseInt(fact(block, variable, end));
    }

    int told(int what) {
        demand(within(what, 7), new IllegalArgumentException());
        return Integer.parseInt(program.tallies().split(" ")[what]);
    }

    int write() {
        lastWritten = program.anew();
        return lastWritten.length();
    }

    long written(int i) {
        return Checks.eight(lastWritten, i);
    }

    int take() {
        if (lastWritten.length() > 700) {
            return NONE;
        }
        tape = lastWritten;
        return tape.length();
    }

    int input(int v) {
        if (inputs.size() == 32) {
            return NONE;
        }
        inputs.add(v);
        return inputs.size();
    }

    int clear() {
        int had = inputs.size();
        inputs.clear();
        return had;
    }

    int run(int steps) {
        demand(within(steps, 20001), new IllegalArgumentException());
        lastRun = program.run(inputs, steps).split(" / ");
        return Integer.parseInt(lastRun[0]);
    }

    int value(int variable) {
        demand(within(variable, 8), new IndexOutOfBoundsException());
        return Integer.parseInt(lastRun[1].split(" ")[variable]);
    }

    int asked() {
        return Integer.parseInt(lastRun[2]);
    }
}
