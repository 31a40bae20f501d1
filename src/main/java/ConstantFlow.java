/**
 * Reads programs of blocks that assign and branch, finds what in them always has the same value,
 * writes them anew with what was found, and runs them.
 *
 * <p>All rows are made with the object and used again: a call makes no objects.
 */
public final class ConstantFlow {
    public static final int NONE = -1, ANY = 2;

    private static final int TAPE_MOST = 700;
    private static final int BLOCKS_MOST = 24;
    private static final int STATEMENTS_MOST = 80;
    private static final int VARIABLES = 8;
    private static final int INPUTS_MOST = 32;
    private static final int STEPS_MOST = 20000;
    private static final int FEED_MOST = 8;
    private static final int TALLIES = 7;

    // The longest statement that can be written is a=b+-2147483648; and the longest end a?23:23.
    private static final int WRITTEN_MOST = STATEMENTS_MOST * 16 + BLOCKS_MOST * 7;

    // What stands where a text has no byte: no byte has this number.
    private static final int NOTHING = -1;

    private static final int UNFIT_BYTE = 1;
    private static final int UNFIT_NUMBER = 2;
    private static final int TOO_MANY = 3;
    private static final int NO_SUCH_BLOCK = 4;

    // Values without an operator; all other values have their operator's byte instead.
    private static final int ASKS = 0;
    private static final int COPIES = 1;

    // Each kind of end is the number of the goals that it names.
    private static final int STOPS = 0;
    private static final int GOES = 1;
    private static final int BRANCHES = 2;

    private final Text tape;
    private final Text rewritten;
    private final Reader reader;
    private final Facts facts;
    private final Machine machine;
    private Program program;
    // A program is read into the spare one, so that a fault leaves the program as it was.
    private Program spare;

    public ConstantFlow() {
        tape = new Text(TAPE_MOST);
        rewritten = new Text(WRITTEN_MOST);
        reader = new Reader(tape);
        facts = new Facts();
        machine = new Machine();
        program = new Program();
        spare = new Program();
        facts.find(program);
    }

    public int feed(int n, long bytes) throws IllegalArgumentException {
        if (n < 1 || n > FEED_MOST) {
            throw new IllegalArgumentException("n is not 1 to 8");
        }
        if (tape.length + n > TAPE_MOST) {
            return NONE;
        }
        for (int i = 0; i < n; i++) {
            tape.append((int) (bytes >>> (8 * i)));
        }
        return tape.length;
    }

    public int wipe() {
        int had = tape.length;
        tape.length = 0;
        return had;
    }

    public int read() {
        if (!reader.fill(spare)) {
            return NONE;
        }
        Program old = program;
        program = spare;
        spare = old;
        facts.find(program);
        return program.blocks;
    }

    public int fault() {
        return reader.fault;
    }

    public int place() {
        return reader.faultPlace;
    }

    public boolean comes(int block) throws IndexOutOfBoundsException {
        if (!isBlock(block)) {
            throw new IndexOutOfBoundsException("there is no such block");
        }
        return facts.come[block];
    }

    public int known(int block, int variable, boolean end) throws IndexOutOfBoundsException {
        if (!isBlock(block) || !isVariable(variable)) {
            throw new IndexOutOfBoundsException("there is no such block or variable");
        }
        if (!facts.come[block]) {
            return 0;
        }
        return facts.view(block, end).any[variable] ? ANY : 1;
    }

    public int number(int block, int variable, boolean end)
            throws IndexOutOfBoundsException, IllegalStateException {
        if (!isBlock(block) || !isVariable(variable)) {
            throw new IndexOutOfBoundsException("there is no such block or variable");
        }
        if (!facts.come[block] || facts.view(block, end).any[variable]) {
            throw new IllegalStateException("it is no number");
        }
        return facts.view(block, end).numbers[variable];
    }

    public int told(int what) throws IllegalArgumentException {
        if (what < 0 || what >= TALLIES) {
            throw new IllegalArgumentException("what is not 0 to 6");
        }
        return facts.tally[what];
    }

    public int write() {
        facts.rewrite(program, rewritten);
        return rewritten.length;
    }

    public long written(int i) {
        long eight = 0;
        for (int k = 0; k < 8; k++) {
            // As a long, for i + k may be above every int.
            int found = rewritten.byteAt((long) i + k);
            if (found != NOTHING) {
                eight |= (long) found << (8 * k);
            }
        }
        return eight;
    }

    public int take() {
        if (rewritten.length > TAPE_MOST) {
            return NONE;
        }
        tape.length = 0;
        for (int i = 0; i < rewritten.length; i++) {
            tape.append(rewritten.byteAt(i));
        }
        return tape.length;
    }

    public int input(int v) {
        if (machine.inputCount >= INPUTS_MOST) {
            return NONE;
        }
        machine.inputs[machine.inputCount] = v;
        machine.inputCount++;
        return machine.inputCount;
    }

    public int clear() {
        int had = machine.inputCount;
        machine.inputCount = 0;
        return had;
    }

    public int run(int steps) throws IllegalArgumentException {
        if (steps < 0 || steps > STEPS_MOST) {
            throw new IllegalArgumentException("steps is not 0 to 20000");
        }
        return machine.execute(program, steps);
    }

    public int value(int variable) throws IndexOutOfBoundsException {
        if (!isVariable(variable)) {
            throw new IndexOutOfBoundsException("there is no such variable");
        }
        return machine.values[variable];
    }

    public int asked() {
        return machine.met;
    }

    private boolean isBlock(int block) {
        return block >= 0 && block < program.blocks;
    }

    private static boolean isVariable(int variable) {
        return variable >= 0 && variable < VARIABLES;
    }

    private static boolean isLetter(int found) {
        return found >= 'a' && found < 'a' + VARIABLES;
    }

    private static boolean isFigure(int found) {
        return found >= '0' && found <= '9';
    }

    private static boolean isOperator(int found) {
        switch (found) {
            case '+':
            case '-':
            case '*':
            case '/':
            case '%':
            case '&':
            case '|':
            case '^':
            case '<':
            case '=':
                return true;
            default:
                return false;
        }
    }

    /** What a value is; one that copies is x, whatever y is. */
    private static int reckon(int operator, int x, int y) {
        switch (operator) {
            case '+':
                return x + y;
            case '-':
                return x - y;
            case '*':
                return x * y;
            case '/':
                return y == 0 ? 0 : x / y;
            case '%':
                return y == 0 ? 0 : x % y;
            case '&':
                return x & y;
            case '|':
                return x | y;
            case '^':
                return x ^ y;
            case '<':
                return x < y ? 1 : 0;
            case '=':
                return x == y ? 1 : 0;
            default:
                return x;
        }
    }

    /** A row of bytes with an end. */
    private static final class Text {
        private final byte[] bytes;
        private int length;

        Text(int most) {
            bytes = new byte[most];
        }

        int byteAt(long i) {
            return i >= 0 && i < length ? bytes[(int) i] & 255 : NOTHING;
        }

        void append(int added) {
            if (length < bytes.length) {
                bytes[length] = (byte) added;
                length++;
            }
        }

        void appendNumber(int added) {
            // As a long, for the least int has no opposite among the ints.
            long rest = Math.abs((long) added);
            if (added < 0) {
                append('-');
            }
            for (long unit = 1000000000L; unit > 0; unit /= 10) {
                if (rest >= unit || unit == 1) {
                    append((int) ('0' + rest / unit % 10));
                }
            }
        }
    }

    /**
     * A program. Its operands stand in one row: two for each statement, and behind them one for
     * each block's end; an operand that is a variable holds the variable's index.
     */
    private static final class Program {
        private int blocks;
        private int statements;
        // Block b has the statements from first[b] up to, but without, first[b + 1]; first[0] is
        // 0 at all times.
        private final int[] first = new int[BLOCKS_MOST + 1];
        private final int[] assigned = new int[STATEMENTS_MOST];
        private final int[] operators = new int[STATEMENTS_MOST];
        private final boolean[] isVariable = new boolean[2 * STATEMENTS_MOST + BLOCKS_MOST];
        private final int[] operands = new int[2 * STATEMENTS_MOST + BLOCKS_MOST];
        private final int[] endKind = new int[BLOCKS_MOST];
        private final int[] goals = new int[2 * BLOCKS_MOST];

        /** One block with a point. */
        Program() {
            blocks = 1;
            endKind[0] = STOPS;
        }

        static int left(int statement) {
            return 2 * statement;
        }

        static int right(int statement) {
            return 2 * statement + 1;
        }

        static int ofEnd(int block) {
            return 2 * STATEMENTS_MOST + block;
        }

        static int goalSlot(int block, int which) {
            return 2 * block + which;
        }

        void empty() {
            blocks = 0;
            statements = 0;
        }

        void setOperand(int slot, boolean variable, int held) {
            isVariable[slot] = variable;
            operands[slot] = held;
        }

        void closeBlock(int kind) {
            endKind[blocks] = kind;
            blocks++;
            first[blocks] = statements;
        }

        int goal(int block, int which) {
            return goals[goalSlot(block, which)];
        }

        /** The goal of an end that goes or branches, when its operand (if any) is x. */
        int goalFor(int block, int x) {
            boolean toSecond = endKind[block] == BRANCHES && x == 0;
            return goal(block, toSecond ? 1 : 0);
        }
    }

    /** Makes a program of the tape, or tells the first fault. */
    private static final class Reader {
        // Far above every int, and ten times as much is still a long.
        private static final long TOO_LARGE = 1L << 40;

        private final Text tape;
        private final int[] goalPlaces = new int[2 * BLOCKS_MOST];
        private Program program;
        private int at;
        private int lastNumber;
        private int fault;
        private int faultPlace = NONE;

        Reader(Text tape) {
            this.tape = tape;
        }

        boolean fill(Program into) {
            program = into;
            program.empty();
            at = 0;
            fault = 0;
            faultPlace = NONE;
            for (int i = 0; i < BLOCKS_MOST; i++) {
                if (!fillStatements() || !fillEnd()) {
                    return false;
                }
                if (next() == NOTHING) {
                    return allGoalsThere();
                }
            }
            return refuse(TOO_MANY, at);
        }

        private boolean refuse(int kind, int where) {
            fault = kind;
            faultPlace = where;
            return false;
        }

        /** The next byte that counts, or NOTHING; the reader then stands at it. */
        private int next() {
            while (at < tape.length && tape.byteAt(at) <= ' ') {
                at++;
            }
            return tape.byteAt(at);
        }

        private boolean pass(int wanted) {
            if (next() != wanted) {
                return refuse(UNFIT_BYTE, at);
            }
            at++;
            return true;
        }

        private boolean fillStatements() {
            for (int i = 0; i <= STATEMENTS_MOST && isLetter(next()); i++) {
                int place = at;
                int variable = next() - 'a';
                at++;
                // Only the byte behind the letter tells a statement from an end.
                if (next() != '=') {
                    at = place;
                    return true;
                }
                if (program.statements >= STATEMENTS_MOST) {
                    return refuse(TOO_MANY, place);
                }
                at++;
                if (!fillStatement(variable)) {
                    return false;
                }
            }
            return true;
        }

        private boolean fillStatement(int variable) {
            int statement = program.statements;
            program.statements++;
            program.assigned[statement] = variable;
            program.operators[statement] = ASKS;
            if (next() == '?') {
                at++;
                return pass(';');
            }
            program.operators[statement] = COPIES;
            if (!fillOperand(Program.left(statement))) {
                return false;
            }
            int found = next();
            if (isOperator(found)) {
                at++;
                program.operators[statement] = found;
                if (!fillOperand(Program.right(statement))) {
                    return false;
                }
            }
            return pass(';');
        }

        private boolean fillOperand(int slot) {
            int found = next();
            if (isLetter(found)) {
                at++;
                program.setOperand(slot, true, found - 'a');
                return true;
            }
            if (!passNumber(true)) {
                return false;
            }
            program.setOperand(slot, false, lastNumber);
            return true;
        }

        private boolean fillEnd() {
            int found = next();
            int kind = found == '.' ? STOPS : found == '>' ? GOES : BRANCHES;
            if (kind != BRANCHES) {
                at++;
            } else if (!fillOperand(Program.ofEnd(program.blocks)) || !pass('?')) {
                return false;
            }
            if (kind != STOPS && !fillGoal(0)) {
                return false;
            }
            if (kind == BRANCHES && (!pass(':') || !fillGoal(1))) {
                return false;
            }
            program.closeBlock(kind);
            return true;
        }

        private boolean fillGoal(int which) {
            int slot = Program.goalSlot(program.blocks, which);
            next();
            goalPlaces[slot] = at;
            if (!passNumber(false)) {
                return false;
            }
            program.goals[slot] = lastNumber;
            return true;
        }

        /** Reads the number that begins just here into lastNumber. */
        private boolean passNumber(boolean mayBeNegative) {
            int place = at;
            boolean negative = mayBeNegative && tape.byteAt(at) == '-';
            if (negative) {
                at++;
            }
            if (!isFigure(tape.byteAt(at))) {
                return refuse(UNFIT_BYTE, at);
            }
            long sum = 0;
            for (; at < tape.length && isFigure(tape.byteAt(at)); at++) {
                sum = Math.min(sum * 10 + tape.byteAt(at) - '0', TOO_LARGE);
            }
            long signed = negative ? -sum : sum;
            lastNumber = (int) signed;
            return lastNumber == signed || refuse(UNFIT_NUMBER, place);
        }

        private boolean allGoalsThere() {
            for (int block = 0; block < program.blocks; block++) {
                for (int which = 0; which < program.endKind[block]; which++) {
                    if (program.goal(block, which) >= program.blocks) {
                        return refuse(NO_SUCH_BLOCK, goalPlaces[Program.goalSlot(block, which)]);
                    }
                }
            }
            return true;
        }
    }

    /** What is known of all variables at one place of a program that is come to. */
    private static final class View {
        private final boolean[] any = new boolean[VARIABLES];
        // Means nothing for a variable that is ANY.
        private final int[] numbers = new int[VARIABLES];

        void become(View other) {
            for (int i = 0; i < VARIABLES; i++) {
                any[i] = other.any[i];
                numbers[i] = other.numbers[i];
            }
        }

        /** Answers whether anything is known otherwise than before. */
        boolean join(View other) {
            boolean changed = false;
            for (int i = 0; i < VARIABLES; i++) {
                if (!any[i] && (other.any[i] || other.numbers[i] != numbers[i])) {
                    any[i] = true;
                    changed = true;
                }
            }
            return changed;
        }

        boolean knows(Program program, int slot) {
            return !program.isVariable[slot] || !any[program.operands[slot]];
        }

        /** The number of an operand; it means nothing when that is ANY. */
        int numberOf(Program program, int slot) {
            int held = program.operands[slot];
            return program.isVariable[slot] ? numbers[held] : held;
        }

        /** Whether a statement's value is a number. */
        boolean settles(Program program, int statement) {
            int operator = program.operators[statement];
            int left = Program.left(statement);
            int right = Program.right(statement);
            if (operator == ASKS) {
                return false;
            }
            boolean knowsLeft = knows(program, left);
            if (operator == COPIES) {
                return knowsLeft;
            }
            boolean knowsRight = knows(program, right);
            if (knowsLeft == knowsRight || operator != '*' && operator != '&') {
                return knowsLeft && knowsRight;
            }
            return numberOf(program, knowsLeft ? left : right) == 0;
        }

        /** The value of a statement that settles. */
        int settled(Program program, int statement) {
            // One operand may be ANY: 0 times it and 0 & it are 0, whatever stands for it here.
            int x = numberOf(program, Program.left(statement));
            int y = numberOf(program, Program.right(statement));
            return reckon(program.operators[statement], x, y);
        }

        void assign(Program program, int statement) {
            int variable = program.assigned[statement];
            boolean settles = settles(program, statement);
            if (settles) {
                numbers[variable] = settled(program, statement);
            }
            any[variable] = !settles;
        }
    }

    /** The least facts about a program, and the program as they write it. */
    private static final class Facts {
        // Each round but the last follows a change, and a block changes once for being come to
        // and once for each variable that becomes ANY.
        private static final int ROUNDS_MOST = BLOCKS_MOST * (VARIABLES + 1) + 1;

        private final boolean[] come = new boolean[BLOCKS_MOST];
        private final boolean[] stale = new boolean[BLOCKS_MOST];
        private final View[] beginnings = new View[BLOCKS_MOST];
        private final View[] ends = new View[BLOCKS_MOST];
        private final View allZero = new View();
        private final View walking = new View();
        private final int[] newNumber = new int[BLOCKS_MOST];
        private final int[] tally = new int[TALLIES];

        Facts() {
            for (int i = 0; i < BLOCKS_MOST; i++) {
                beginnings[i] = new View();
                ends[i] = new View();
            }
        }

        View view(int block, boolean end) {
            return end ? ends[block] : beginnings[block];
        }

        void find(Program program) {
            for (int i = 0; i < BLOCKS_MOST; i++) {
                come[i] = false;
                stale[i] = false;
            }
            comeTo(0, allZero);
            boolean more = true;
            for (int round = 0; more && round < ROUNDS_MOST; round++) {
                more = flowOnce(program);
            }
            count(program);
        }

        /** Answers whether there was a block to flow through. */
        private boolean flowOnce(Program program) {
            boolean flowed = false;
            for (int block = 0; block < program.blocks; block++) {
                if (stale[block]) {
                    stale[block] = false;
                    flowThrough(program, block);
                    flowed = true;
                }
            }
            return flowed;
        }

        private void flowThrough(Program program, int block) {
            View view = ends[block];
            view.become(beginnings[block]);
            for (int i = program.first[block]; i < program.first[block + 1]; i++) {
                view.assign(program, i);
            }
            if (program.endKind[block] == STOPS) {
                return;
            }
            if (forks(program, block)) {
                comeTo(program.goal(block, 0), view);
                comeTo(program.goal(block, 1), view);
            } else {
                comeTo(onlyGoal(program, block), view);
            }
        }

        private void comeTo(int block, View view) {
            if (!come[block]) {
                come[block] = true;
                stale[block] = true;
                beginnings[block].become(view);
            } else if (beginnings[block].join(view)) {
                stale[block] = true;
            }
        }

        /** Whether a block's end may go to both of its goals. */
        private boolean forks(Program program, int block) {
            return program.endKind[block] == BRANCHES
                    && !ends[block].knows(program, Program.ofEnd(block));
        }

        /** Where an end goes that doesn't fork and is no point. */
        private int onlyGoal(Program program, int block) {
            return program.goalFor(block, ends[block].numberOf(program, Program.ofEnd(block)));
        }

        private void count(Program program) {
            for (int i = 0; i < TALLIES; i++) {
                tally[i] = 0;
            }
            tally[0] = program.blocks;
            tally[2] = program.statements;
            for (int block = 0; block < program.blocks; block++) {
                if (come[block]) {
                    countBlock(program, block);
                }
            }
        }

        private void countBlock(Program program, int block) {
            tally[1]++;
            walking.become(beginnings[block]);
            for (int i = program.first[block]; i < program.first[block + 1]; i++) {
                tally[3]++;
                if (walking.settles(program, i)) {
                    tally[4]++;
                }
                walking.assign(program, i);
            }
            if (program.endKind[block] == BRANCHES) {
                tally[5]++;
                if (!forks(program, block)) {
                    tally[6]++;
                }
            }
        }

        void rewrite(Program program, Text out) {
            out.length = 0;
            int blocks = 0;
            for (int block = 0; block < program.blocks; block++) {
                newNumber[block] = blocks;
                if (come[block]) {
                    blocks++;
                }
            }
            for (int block = 0; block < program.blocks; block++) {
                if (come[block]) {
                    rewriteBlock(program, block, out);
                }
            }
        }

        private void rewriteBlock(Program program, int block, Text out) {
            walking.become(beginnings[block]);
            for (int i = program.first[block]; i < program.first[block + 1]; i++) {
                out.append('a' + program.assigned[i]);
                out.append('=');
                rewriteValue(program, i, out);
                out.append(';');
                walking.assign(program, i);
            }
            rewriteEnd(program, block, out);
        }

        private void rewriteValue(Program program, int statement, Text out) {
            int operator = program.operators[statement];
            if (walking.settles(program, statement)) {
                out.appendNumber(walking.settled(program, statement));
            } else if (operator == ASKS) {
                out.append('?');
            } else {
                rewriteOperand(program, Program.left(statement), out);
                if (operator != COPIES) {
                    out.append(operator);
                    rewriteOperand(program, Program.right(statement), out);
                }
            }
        }

        private void rewriteOperand(Program program, int slot, Text out) {
            if (walking.knows(program, slot)) {
                out.appendNumber(walking.numberOf(program, slot));
            } else {
                out.append('a' + program.operands[slot]);
            }
        }

        private void rewriteEnd(Program program, int block, Text out) {
            if (program.endKind[block] == STOPS) {
                out.append('.');
            } else if (forks(program, block)) {
                rewriteOperand(program, Program.ofEnd(block), out);
                out.append('?');
                out.appendNumber(newNumber[program.goal(block, 0)]);
                out.append(':');
                out.appendNumber(newNumber[program.goal(block, 1)]);
            } else {
                out.append('>');
                out.appendNumber(newNumber[onlyGoal(program, block)]);
            }
        }
    }

    /** The inputs, and the last run's variables. */
    private static final class Machine {
        private final int[] inputs = new int[INPUTS_MOST];
        private int inputCount;
        private final int[] values = new int[VARIABLES];
        private int met;

        /** Answers how many steps were done, or NONE when it didn't end. */
        int execute(Program program, int steps) {
            for (int i = 0; i < VARIABLES; i++) {
                values[i] = 0;
            }
            met = 0;
            int block = 0;
            int statement = program.first[0];
            for (int done = 1; done <= steps; done++) {
                if (statement < program.first[block + 1]) {
                    values[program.assigned[statement]] = valueOf(program, statement);
                    statement++;
                } else if (program.endKind[block] == STOPS) {
                    return done;
                } else {
                    block = program.goalFor(block, operand(program, Program.ofEnd(block)));
                    statement = program.first[block];
                }
            }
            return NONE;
        }

        private int valueOf(Program program, int statement) {
            int operator = program.operators[statement];
            if (operator == ASKS) {
                return nextInput();
            }
            int x = operand(program, Program.left(statement));
            int y = operand(program, Program.right(statement));
            return reckon(operator, x, y);
        }

        private int nextInput() {
            int found = met < inputCount ? inputs[met] : 0;
            met++;
            return found;
        }

        private int operand(Program program, int slot) {
            int held = program.operands[slot];
            return program.isVariable[slot] ? values[held] : held;
        }
    }
}
