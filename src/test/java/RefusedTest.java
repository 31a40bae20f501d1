import java.util.ArrayList;
import java.util.List;

/**
 * The last sentence of "Terms": what is thrown first, and that a call which throws, or answers
 * NONE, changes nothing. Of two objects with the same calls behind them one gets the refused call;
 * then both must answer the same to all that can be asked.
 */
public final class RefusedTest {
    private static final Checks CHECKS = new Checks();
    private static final int NONE = ConstantFlow.NONE;
    private static final int MIN = Integer.MIN_VALUE;
    private static final int MAX = Integer.MAX_VALUE;
    // Written anew in 701 bytes.
    private static final String LONG = "a=-2147483648;" + "b=a;".repeat(48) + "c=1111;c=1111;.";

    interface Answer {
        int of(Flow x);
    }

    interface Preparing {
        Flow make();
    }

    public static void main(String[] args) {
        theFirstNamedIsThrown();
        for (Preparing state : List.<Preparing>of(Flow::new, RefusedTest::busy,
                RefusedTest::full, RefusedTest::stopped)) {
            throwingChangesNothing(state);
            askingChangesNothing(state);
            runChangesTheRunAlone(state);
        }
        numberThrowingChangesNothing();
        feedNoneChangesNothing();
        takeNoneChangesNothing();
        inputNoneChangesNothing();
        readNoneChangesTheFaultAlone();
        CHECKS.finish();
    }

    /** A tape, a program, a text written, inputs, and a run, all of them different; no fault. */
    private static Flow busy() {
        Flow x = Checks.loaded("a=1;b=2;c=3;.");
        x.write();
        Checks.load(x, "a=?;b=a+5;a?2:2 c=4;. d=b;.");
        x.input(7);
        x.input(-8);
        x.run(20000);
        x.wipe();
        Checks.feed(x, "f=6;>1 .");
        return x;
    }

    /** As much of everything as there may be, and a fault. */
    private static Flow full() {
        Flow x = Checks.loaded(LONG);
        x.write();
        Checks.load(x, "a=?;b=a*0;a?2:2 c=4;. d=b;d?0:2");
        for (int i = 1; i <= 32; i++) {
            x.input(i * 1000003);
        }
        x.run(20000);
        Checks.load(x, "a=2147483648;.");
        x.wipe();
        Checks.feed(x, "g=7;." + " ".repeat(694) + ".");
        return x;
    }

    /** A run that did not end is the last one; nothing was written, and no fault met. */
    private static Flow stopped() {
        Flow x = Checks.loaded("a=a+1;b=?;c=b;>0 . .");
        x.input(31);
        x.run(6);
        x.feed(1, 'x');
        return x;
    }

    /** All that an object can be asked; it is used up by that. */
    private static String everything(Flow x) {
        return failing(x) + running(x) + rest(x);
    }

    private static String failing(Flow x) {
        return "fault " + x.fault() + " at " + x.place();
    }

    private static String running(Flow x) {
        return ", values " + Checks.values(x) + ", asked " + x.asked();
    }

    private static String rest(Flow x) {
        StringBuilder text = new StringBuilder(", written ");
        text.append(Checks.lastWritten(x, 720));
        text.append(", told ").append(Checks.tallies(x)).append(", come ").append(Checks.come(x));
        for (int block = 0; block < x.told(0); block++) {
            text.append(", ").append(Checks.facts(x, block, false));
            text.append(", ").append(Checks.facts(x, block, true));
        }
        text.append(", run ").append(x.run(1000)).append(running(x));
        text.append(", anew ").append(Checks.anew(x));
        text.append(", read ").append(x.read()).append(' ').append(failing(x));
        text.append(", anew ").append(Checks.anew(x)).append(", wipe ").append(x.wipe());
        return text.append(inputs(x)).toString();
    }

    private static String inputs(Flow x) {
        // All inputs as one number, by which their order counts too.
        Checks.load(x, "a=?;b=b*31;b=b+a;c=c+1;d=c<40;d?0:1 .");
        x.run(20000);
        return ", inputs " + x.value(1) + ", clear " + x.clear();
    }

    private static void throwing(Preparing state, String name,
            Class<? extends RuntimeException> wanted, Answer call) {
        Flow x = state.make();
        CHECKS.throwsDue(name, wanted, () -> call.of(x));
        CHECKS.due(name + ": what stays", everything(x), everything(state.make()));
    }

    private static void theFirstNamedIsThrown() {
        CHECKS.sentence("Methods throw what their comments name, the one named first when several"
                + " would do");
        // Block 1 is not come to, and a is ANY in block 0: there number() has no number.
        Flow x = Checks.loaded("a=?;. .");
        for (int block = -1; block <= 2; block++) {
            for (int variable : new int[] {-1, 8, MIN, MAX}) {
                int b = block;
                CHECKS.throwsDue("number(" + b + ", " + variable + ")",
                        IndexOutOfBoundsException.class, () -> x.number(b, variable, true));
            }
        }
        for (int block : new int[] {-1, 2, 24, MIN, MAX}) {
            CHECKS.throwsDue("number(" + block + ", 0)", IndexOutOfBoundsException.class,
                    () -> x.number(block, 0, true));
        }
        CHECKS.throwsDue("number(0, 0)", IllegalStateException.class, () -> x.number(0, 0, true));
        CHECKS.throwsDue("number(1, 7)", IllegalStateException.class, () -> x.number(1, 7, false));
        // What throws does not answer NONE, though there would be too many bytes as well.
        Flow y = full();
        CHECKS.throwsDue("full: feed(9)", IllegalArgumentException.class, () -> y.feed(9, 0));
        CHECKS.throwsDue("full: feed(0)", IllegalArgumentException.class, () -> y.feed(0, 0));
    }

    private static void throwingChangesNothing(Preparing state) {
        CHECKS.sentence("a call that throws .. changes nothing");
        for (int wrong : new int[] {-1, 0, 9, MIN, MAX}) {
            throwing(state, "feed(" + wrong + ")", IllegalArgumentException.class,
                    x -> x.feed(wrong, 0x2e2e2e2e2e2e2e2eL));
        }
        for (int wrong : new int[] {-1, 3, 24, MIN, MAX}) {
            throwing(state, "comes(" + wrong + ")", IndexOutOfBoundsException.class,
                    x -> x.comes(wrong) ? 1 : 0);
            throwing(state, "known(" + wrong + ", 0)", IndexOutOfBoundsException.class,
                    x -> x.known(wrong, 0, true));
            throwing(state, "number(" + wrong + ", 0)", IndexOutOfBoundsException.class,
                    x -> x.number(wrong, 0, false));
        }
        for (int wrong : new int[] {-1, 8, MIN, MAX}) {
            throwing(state, "known(0, " + wrong + ")", IndexOutOfBoundsException.class,
                    x -> x.known(0, wrong, true));
            throwing(state, "number(0, " + wrong + ")", IndexOutOfBoundsException.class,
                    x -> x.number(0, wrong, false));
            throwing(state, "value(" + wrong + ")", IndexOutOfBoundsException.class,
                    x -> x.value(wrong));
        }
        for (int wrong : new int[] {-1, 7, MIN, MAX}) {
            throwing(state, "told(" + wrong + ")", IllegalArgumentException.class,
                    x -> x.told(wrong));
        }
        for (int wrong : new int[] {-1, 20001, MIN, MAX}) {
            throwing(state, "run(" + wrong + ")", IllegalArgumentException.class,
                    x -> x.run(wrong));
        }
    }

    private static void numberThrowingChangesNothing() {
        CHECKS.sentence("a call that throws .. changes nothing: number, where there is none");
        throwing(RefusedTest::busy, "number(0, 0)", IllegalStateException.class,
                x -> x.number(0, 0, true));
        throwing(RefusedTest::busy, "number(1, 0)", IllegalStateException.class,
                x -> x.number(1, 0, false));
    }

    /** Calls that only ask are refused nothing; what they leave is what was there. */
    private static void askingChangesNothing(Preparing state) {
        CHECKS.sentence("Nothing is promised beyond the answers and state changes described");
        Flow x = state.make();
        List<String> answers = new ArrayList<>();
        for (int i = 0; i < 2; i++) {
            answers.add(failing(x) + running(x) + Checks.tallies(x) + Checks.come(x)
                    + Checks.facts(x, 0, false) + x.written(0) + x.written(-3) + x.written(MAX));
        }
        CHECKS.due("asked twice", answers.get(1), answers.get(0));
        Flow y = state.make();
        y.written(MIN);
        y.comes(0);
        y.known(0, 7, true);
        y.told(6);
        CHECKS.due("asked: what stays", everything(y), everything(state.make()));
    }

    /** A run that answers NONE: promise 16 says itself what it leaves. */
    private static void runChangesTheRunAlone(Preparing state) {
        CHECKS.sentence("a call that .. answers NONE, changes nothing; Promise 16: variables and"
                + " inputs are then as they are behind these");
        Flow x = state.make();
        CHECKS.due("run(0)", x.run(0), NONE);
        CHECKS.due("run(0): the run", running(x), ", values 0 0 0 0 0 0 0 0, asked 0");
        CHECKS.due("run(0): what stays", failing(x) + rest(x), stays(state));
        Flow y = Checks.loaded("a=?;b=a;.");
        y.input(6);
        CHECKS.due("run(2)", y.run(2), NONE);
        CHECKS.due("run(2): the run", running(y), ", values 6 6 0 0 0 0 0 0, asked 1");
        CHECKS.due("run(2): the inputs", y.clear(), 1);
    }

    private static String stays(Preparing state) {
        Flow x = state.make();
        return failing(x) + rest(x);
    }

    private static void feedNoneChangesNothing() {
        CHECKS.sentence("a call that .. answers NONE, changes nothing: feed");
        for (int n = 1; n <= 8; n++) {
            Flow x = full();
            CHECKS.due("full: feed(" + n + ")", x.feed(n, 0x2e2e2e2e2e2e2e2eL), NONE);
            CHECKS.due("full: feed(" + n + "): what stays", everything(x), everything(full()));
        }
        for (int n = 2; n <= 8; n++) {
            // There is room for all but one of the bytes.
            String begin = "a=1;." + " ".repeat(701 - n - 5);
            Flow x = Checks.loaded(begin);
            CHECKS.due("701 - " + n + ": feed(" + n + ")", x.feed(n, 0x2e2e2e2e2e2e2e2eL), NONE);
            CHECKS.due("701 - " + n + ": read()", x.read(), 1);
            CHECKS.due("701 - " + n + ": feed one less", x.feed(n - 1, 0x2e2e2e2e2e2e2e2eL), 700);
            CHECKS.due("701 - " + n + ": read()", x.read(), n);
        }
    }

    private static void takeNoneChangesNothing() {
        CHECKS.sentence("a call that .. answers NONE, changes nothing: take");
        Flow x = full();
        CHECKS.due("701 bytes: take()", x.take(), NONE);
        CHECKS.due("701 bytes: what stays", everything(x), everything(full()));
        Flow y = Checks.loaded(LONG);
        y.write();
        y.wipe();
        CHECKS.due("701 bytes, an empty tape: take()", y.take(), NONE);
        CHECKS.due("701 bytes, an empty tape: wipe()", y.wipe(), 0);
        CHECKS.due("701 bytes: written", Checks.lastWritten(y, 702),
                LONG.replace("b=a;", "b=-2147483648;") + "\u0000");
    }

    private static void inputNoneChangesNothing() {
        CHECKS.sentence("a call that .. answers NONE, changes nothing: input");
        for (int v : new int[] {0, 5, MIN, MAX}) {
            Flow x = full();
            CHECKS.due("32 inputs: input(" + v + ")", x.input(v), NONE);
            CHECKS.due("32 inputs: what stays", everything(x), everything(full()));
        }
    }

    private static void readNoneChangesTheFaultAlone() {
        CHECKS.sentence("changes nothing (but for read()); Promise 4: NONE when there is a fault:"
                + " the program stays.");
        String[] tapes = {"", " ", "x", "a=9;b=8;c=7;x", "c=2147483648;.", "c=1;".repeat(81) + ".",
            ".".repeat(25), "a=5;>1 b=?;>2", "a=?;a?0:1", "0?0:0 >9 0?1:1"};
        int[] faults = {1, 1, 1, 1, 2, 3, 3, 4, 4, 4};
        int[] places = {0, 1, 0, 12, 2, 320, 24, 12, 8, 7};
        for (int i = 0; i < tapes.length; i++) {
            Flow x = busy();
            x.wipe();
            Checks.feed(x, tapes[i]);
            CHECKS.due("'" + tapes[i] + "': read()", x.read(), NONE);
            CHECKS.due("'" + tapes[i] + "': the fault", failing(x),
                    "fault " + faults[i] + " at " + places[i]);
            Flow y = busy();
            y.wipe();
            Checks.feed(y, tapes[i]);
            CHECKS.due("'" + tapes[i] + "': what stays", running(x) + rest(x),
                    running(y) + rest(y));
        }
    }
}
