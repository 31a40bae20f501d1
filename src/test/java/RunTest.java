/** Promises 14 to 18, in ordinary cases: input, clear, run, value, asked. */
public final class RunTest {
    private static final Checks CHECKS = new Checks();

    public static void main(String[] args) {
        clearTakesAllInputs();
        operatorsReckon();
        stepsAreCounted();
        endsChooseTheirGoal();
        inputsComeInOrder();
        eachRunBeginsAnew();
        valuesOfVariables();
        readingLeavesTheRun();
        CHECKS.finish();
    }

    private static void clearTakesAllInputs() {
        Flow x = Checks.loaded("a=?;.");
        x.input(5);
        x.run(2);
        CHECKS.due("clear()", x.clear(), 1);
        CHECKS.due("cleared: value(0) of the last run", x.value(0), 5);
        CHECKS.due("cleared: asked() of the last run", x.asked(), 1);
        CHECKS.due("clear() again", x.clear(), 0);
        x.run(2);
        CHECKS.due("cleared: value(0)", x.value(0), 0);
        CHECKS.due("cleared: input", x.input(Integer.MIN_VALUE), 1);
        x.run(2);
        CHECKS.due("a new input: value(0)", x.value(0), Integer.MIN_VALUE);
    }

    private static void operatorsReckon() {
        int min = Integer.MIN_VALUE;
        int max = Integer.MAX_VALUE;
        int[] operands = {0, 1, -1, 2, -2, 7, -7, 12, 10, 65536, 65537, min, max, min + 1};
        for (int x : operands) {
            for (int y : operands) {
                reckons("+", x, y, (int) ((long) x + y));
                reckons("-", x, y, (int) ((long) x - y));
                reckons("*", x, y, (int) ((long) x * y));
                reckons("/", x, y, y == 0 ? 0 : (int) ((long) x / y));
                reckons("%", x, y, y == 0 ? 0 : (int) ((long) x % y));
                reckons("&", x, y, x & y);
                reckons("|", x, y, x | y);
                reckons("^", x, y, x ^ y);
                reckons("<", x, y, x < y ? 1 : 0);
                reckons("=", x, y, x == y ? 1 : 0);
            }
        }
    }

    private static void reckons(String operator, int left, int right, int wanted) {
        Flow x = Checks.loaded("a=?;b=?;c=a" + operator + "b;d=" + left + operator
                + right + ";e=a" + operator + right + ";f=c;.");
        x.input(left);
        x.input(right);
        String name = left + " " + operator + " " + right;
        CHECKS.due(name + ": run(7)", x.run(7), 7);
        CHECKS.due(name + ": values", Checks.values(x), left + " " + right + " " + wanted + " "
                + wanted + " " + wanted + " " + wanted + " 0 0");
        CHECKS.due(name + ": number", x.number(0, 3, true), wanted);
    }

    private static void stepsAreCounted() {
        steps(".", 1);
        steps("a=1;.", 2);
        steps("a=1;b=2;>1 .", 4);
        steps(">2 . >1", 3);
        steps("a=a+1;b=a<5;b?0:1 .", 16);
    }

    private static void steps(String text, int wanted) {
        Flow x = Checks.loaded(text);
        CHECKS.due("'" + text + "': run(20000)", x.run(20000), wanted);
        CHECKS.due("'" + text + "': just enough", x.run(wanted), wanted);
        CHECKS.due("'" + text + "': one too few", x.run(wanted - 1), ConstantFlow.NONE);
    }

    private static void endsChooseTheirGoal() {
        goes("a=1;a?1:2", 1);
        goes("a=-1;a?1:2", 1);
        goes("a=-2147483648;a?1:2", 1);
        goes("a=0;a?1:2", 2);
        goes("5?1:2", 1);
        goes("0?1:2", 2);
        goes("a=?;a?1:2", 2);
        goes(">1", 1);
        goes(">2", 2);
        goes("b=0;b?2:1", 1);
    }

    private static void goes(String begin, int wanted) {
        Flow x = Checks.loaded(begin + " h=1;. h=2;.");
        x.run(9);
        CHECKS.due("'" + begin + "' goes to", x.value(7), wanted);
    }

    private static void inputsComeInOrder() {
        Flow x = Checks.loaded("a=?;b=?;c=?;d=5;d=?;.");
        x.input(11);
        x.input(-22);
        x.input(33);
        CHECKS.due("inputs: run(6)", x.run(6), 6);
        CHECKS.due("inputs: values", Checks.values(x), "11 -22 33 0 0 0 0 0");
        CHECKS.due("inputs: asked()", x.asked(), 4);
        // Running takes none of them away.
        CHECKS.due("inputs: run(6) again", x.run(6), 6);
        CHECKS.due("inputs: values again", Checks.values(x), "11 -22 33 0 0 0 0 0");
        CHECKS.due("inputs: a fourth", x.input(44), 4);
        x.run(6);
        CHECKS.due("inputs: values with the fourth", Checks.values(x), "11 -22 33 44 0 0 0 0");
    }

    private static void eachRunBeginsAnew() {
        Flow x = Checks.loaded("a=a+1;b=b+a;.");
        x.run(3);
        x.run(3);
        CHECKS.due("anew: values", Checks.values(x), "1 1 0 0 0 0 0 0");
        x.run(2);
        CHECKS.due("anew, in part: run(3)", x.run(3), 3);
        CHECKS.due("anew: values", Checks.values(x), "1 1 0 0 0 0 0 0");
        Checks.load(x, "c=?;.");
        x.run(2);
        CHECKS.due("another program: values", Checks.values(x), "0 0 0 0 0 0 0 0");
        CHECKS.due("another program: asked()", x.asked(), 1);
    }

    private static void valuesOfVariables() {
        Flow x = Checks.loaded("a=1;b=2;c=3;d=4;e=5;f=6;g=7;h=8;.");
        CHECKS.due("before the run: values", Checks.values(x), "0 0 0 0 0 0 0 0");
        x.run(9);
        CHECKS.due("values", Checks.values(x), "1 2 3 4 5 6 7 8");
    }

    private static void readingLeavesTheRun() {
        Flow x = Checks.loaded("a=?;b=3;.");
        x.input(4);
        x.run(3);
        Checks.load(x, "c=1;.");
        Checks.load(x, "x");
        x.write();
        x.take();
        CHECKS.due("read since: values", Checks.values(x), "4 3 0 0 0 0 0 0");
        CHECKS.due("read since: asked()", x.asked(), 1);
        CHECKS.due("read since: clear()", x.clear(), 1);
    }
}
