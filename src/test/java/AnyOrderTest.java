import java.util.List;
import java.util.Map;
import java.util.TreeMap;

/** All calls, in any order and with any arguments, asked of a Flow and of its Twin. */
public final class AnyOrderTest {
    private static final Checks CHECKS = new Checks();
    private static final Programs MADE_UP = new Programs(18);
    private static final int OBJECTS = 1500;
    // A text that is fed takes at most 88 calls, a text that is written 181, and some beside.
    private static final int CALLS_KEPT_BACK = 200;
    private static final int[] ODD = {-1, -2, 7, 8, 9, 24, 25, 97, 256, 20001, Integer.MIN_VALUE,
        Integer.MAX_VALUE};

    private static final List<String> REFUSALS = List.of("feed -1", "read -1", "take -1",
            "input -1", "run -1", "feed IllegalArgumentException",
            "comes IndexOutOfBoundsException", "known IndexOutOfBoundsException",
            "number IndexOutOfBoundsException", "number IllegalStateException",
            "told IllegalArgumentException", "run IllegalArgumentException",
            "value IndexOutOfBoundsException");

    interface Answer {
        Object get();
    }

    // How many times each call was refused, each way.
    private static final Map<String, Integer> REFUSED = new TreeMap<>();
    private static int object;
    private static Flow flow;
    private static Twin twin;

    public static void main(String[] args) {
        for (object = 0; object < OBJECTS; object++) {
            flow = new Flow();
            twin = new Twin();
            while (flow.calls() < Flow.CALLS_MOST - CALLS_KEPT_BACK) {
                askSome();
            }
            while (flow.calls() < Flow.CALLS_MOST) {
                askOne();
            }
        }
        for (String refusal : REFUSALS) {
            CHECKS.due("often enough: " + refusal, REFUSED.getOrDefault(refusal, 0) > 20, true);
        }
        CHECKS.finish();
    }

    private static void same(String call, Answer got, Answer due) {
        int number = flow.calls() + 1;
        String wanted = outcome(due);
        CHECKS.due("object " + object + ", call " + number + ", " + call, outcome(got), wanted);
        if (wanted.equals("-1") || wanted.endsWith("Exception")) {
            String name = call.substring(0, call.indexOf('('));
            REFUSED.merge(name + " " + wanted, 1, Integer::sum);
        }
    }

    private static String outcome(Answer answer) {
        try {
            return answer.get().toString();
        } catch (RuntimeException e) {
            return e.getClass().getSimpleName();
        }
    }

    private static void askSome() {
        int kind = MADE_UP.pick(20);
        if (kind == 0) {
            readText(MADE_UP.pick(8) == 0 ? longAnew() : MADE_UP.text());
        } else if (kind == 1) {
            writeAll();
        } else if (kind == 2) {
            runAndLook(MADE_UP.pick(3) == 0 ? MADE_UP.pick(12) : 300);
        } else {
            askOne();
        }
    }

    /** A program that is written anew in some 700 bytes, more or less. */
    private static String longAnew() {
        return "a=?;b=-2147483648;" + "a=a+b;".repeat(30 + MADE_UP.pick(25)) + ".";
    }

    private static void readText(String text) {
        if (MADE_UP.pick(8) > 0) {
            same("wipe()", flow::wipe, twin::wipe);
        }
        for (int i = 0; i < text.length(); i += 8) {
            feed(Math.min(8, text.length() - i), Checks.eight(text, i));
        }
        same("read() of '" + text + "'", flow::read, twin::read);
        same("fault()", flow::fault, twin::fault);
        same("place()", flow::place, twin::place);
    }

    private static void feed(int n, long bytes) {
        same("feed(" + n + ", " + bytes + ")", () -> flow.feed(n, bytes),
                () -> twin.feed(n, bytes));
    }

    private static void writeAll() {
        int length = twin.write();
        same("write()", flow::write, () -> length);
        for (int i = 0; i < length; i += 8) {
            written(i);
        }
    }

    private static void written(int i) {
        same("written(" + i + ")", () -> flow.written(i), () -> twin.written(i));
    }

    private static void runAndLook(int steps) {
        run(steps);
        for (int i = 0; i < 8; i++) {
            value(i);
        }
        same("asked()", flow::asked, twin::asked);
    }

    private static void run(int steps) {
        same("run(" + steps + ")", () -> flow.run(steps), () -> twin.run(steps));
    }

    private static void value(int i) {
        same("value(" + i + ")", () -> flow.value(i), () -> twin.value(i));
    }

    /** An argument that is mostly from 0 on, below a bound. */
    private static int argument(int bound) {
        return MADE_UP.pick(12) > 0 ? MADE_UP.pick(bound) : ODD[MADE_UP.pick(ODD.length)];
    }

    private static void askOne() {
        switch (MADE_UP.pick(24)) {
            case 0 -> feed(argument(9), MADE_UP.pick(1 << 30) * 0x123456789abcdefL);
            case 1 -> same("wipe()", flow::wipe, twin::wipe);
            case 2 -> same("read()", flow::read, twin::read);
            case 3 -> same("fault()", flow::fault, twin::fault);
            case 4 -> same("place()", flow::place, twin::place);
            case 5 -> same("write()", flow::write, twin::write);
            case 6 -> written(argument(60) - 4);
            case 7 -> same("take()", flow::take, twin::take);
            case 8 -> same("clear()", flow::clear, twin::clear);
            case 9 -> same("asked()", flow::asked, twin::asked);
            case 10 -> run(argument(40));
            case 11 -> value(argument(8));
            case 12, 13 -> input(MADE_UP.number());
            default -> askFact(argument(twin.blocks()), argument(8), MADE_UP.pick(2) == 0);
        }
    }

    private static void input(int v) {
        // Many at once, or there would never be too many.
        for (int i = MADE_UP.pick(12); i >= 0 && flow.calls() < Flow.CALLS_MOST; i--) {
            same("input(" + v + ")", () -> flow.input(v), () -> twin.input(v));
        }
    }

    private static void askFact(int block, int variable, boolean end) {
        String of = "(" + block + ", " + variable + ", " + end + ")";
        switch (MADE_UP.pick(5)) {
            case 0 -> same("comes(" + block + ")", () -> flow.comes(block),
                    () -> twin.comes(block));
            case 1 -> same("told(" + variable + ")", () -> flow.told(variable),
                    () -> twin.told(variable));
            case 2 -> same("known" + of, () -> flow.known(block, variable, end),
                    () -> twin.known(block, variable, end));
            default -> same("number" + of, () -> flow.number(block, variable, end),
                    () -> twin.number(block, variable, end));
        }
    }
}
