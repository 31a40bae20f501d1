/**
 * The boundary cases of "Terms" on running, on facts and on what is written anew: one test for
 * each sentence or part of one.
 */
public final class FactsEdgesTest {
    private static final Checks CHECKS = new Checks();
    private static final int MIN = Integer.MIN_VALUE;
    private static final int MAX = Integer.MAX_VALUE;

    public static void main(String[] args) {
        variablesAre0AtFirst();
        inputsThatAreLeft();
        divisionIsCutOff();
        divisionBy0();
        lessOrTheSame();
        allWraps();
        endsGo();
        eachIsAStep();
        block0IsComeTo();
        askedForIsAny();
        zeroWithAny();
        elseAnyWithAny();
        endsMayGo();
        sameNumbersJoined();
        allElseJoined();
        factsAreTheLeast();
        blocksWritten();
        valuesWritten();
        endsWritten();
        figuresWritten();
        CHECKS.finish();
    }

    /** One operation: by running on inputs, by running on numbers, by the facts, written anew. */
    private static void makes(String operator, int left, int right, int wanted) {
        String name = left + operator + right;
        Flow x = Checks.loaded("a=?;b=?;c=a" + operator + "b;d=" + name + ";.");
        x.input(left);
        x.input(right);
        CHECKS.due(name + ": run(5)", x.run(5), 5);
        CHECKS.due(name + ": of inputs", x.value(2), wanted);
        CHECKS.due(name + ": of numbers", x.value(3), wanted);
        CHECKS.due(name + ": by the facts", Checks.fact(x, 0, 3, true), "" + wanted);
        CHECKS.due(name + ": anew", Checks.anew(x),
                "a=?;b=?;c=a" + operator + "b;d=" + wanted + ";.");
    }

    private static void variablesAre0AtFirst() {
        CHECKS.sentence("all variables are 0 at first, block 0 is come to.");
        for (char c = 'a'; c <= 'h'; c++) {
            // Each run adds to what is there at first, and so does not see the last one's.
            Flow x = Checks.loaded(c + "=" + c + "+1;. " + c + "=9;.");
            for (int i = 0; i < 2; i++) {
                CHECKS.due(c + ": run(2)", x.run(2), 2);
                CHECKS.due(c + ": values", x.value(c - 'a'), 1);
            }
            CHECKS.due(c + ": at the beginning", Checks.fact(x, 0, c - 'a', false), "0");
        }
    }

    private static void inputsThatAreLeft() {
        CHECKS.sentence("of ? the next INPUT, 0 when there is none left");
        String[] values = {"0 0 0", "1 0 0", "1 2 0", "1 2 3"};
        for (int inputs = 0; inputs <= 3; inputs++) {
            Flow x = Checks.loaded("a=7;b=7;c=7;a=?;b=?;c=?;.");
            for (int i = 1; i <= inputs; i++) {
                x.input(i);
            }
            CHECKS.due(inputs + " inputs: run(7)", x.run(7), 7);
            CHECKS.due(inputs + " inputs: values", Checks.values(x),
                    values[inputs] + " 0 0 0 0 0");
        }
        Flow x = Checks.loaded("a=?;b=b*10;b=b+a;c=c+1;d=c<8;d?0:1 .");
        for (int i = 1; i <= 7; i++) {
            x.input(i);
        }
        CHECKS.due("seven inputs, eight ?: run", x.run(100), 49);
        CHECKS.due("seven inputs, eight ?: in their order", x.value(1), 12345670);
    }

    private static void divisionIsCutOff() {
        CHECKS.sentence("x by y (cut off), x less that times y");
        int[][] rows = {{7, 2, 3, 1}, {-7, 2, -3, -1}, {7, -2, -3, 1}, {-7, -2, 3, -1},
            {1, 2, 0, 1}, {-1, 2, 0, -1}, {0, 5, 0, 0}, {6, 3, 2, 0}, {-6, 3, -2, 0},
            {MAX, 1, MAX, 0}, {MIN, 1, MIN, 0}, {MAX, -1, -MAX, 0}, {MAX, MAX, 1, 0},
            {MIN, MIN, 1, 0}, {MIN, MAX, -1, -1}, {MAX, MIN, 0, MAX}, {MIN, 2, MIN / 2, 0},
            {MIN, 10, -214748364, -8}, {MAX, 10, 214748364, 7}};
        for (int[] row : rows) {
            makes("/", row[0], row[1], row[2]);
            makes("%", row[0], row[1], row[3]);
        }
    }

    private static void divisionBy0() {
        CHECKS.sentence("both 0 if y is 0");
        for (int left : new int[] {0, 1, -1, 7, MIN, MAX}) {
            makes("/", left, 0, 0);
            makes("%", left, 0, 0);
        }
    }

    private static void lessOrTheSame() {
        CHECKS.sentence("1 if x is less than y, or the same as y, else 0");
        int[] rising = {MIN, MIN + 1, -2, -1, 0, 1, 2, MAX - 1, MAX};
        for (int i = 0; i < rising.length; i++) {
            for (int k = 0; k < rising.length; k++) {
                makes("<", rising[i], rising[k], i < k ? 1 : 0);
                makes("=", rising[i], rising[k], i == k ? 1 : 0);
            }
        }
    }

    private static void allWraps() {
        CHECKS.sentence("All wraps to 32 bits.");
        makes("+", MAX, 1, MIN);
        makes("+", MAX, MAX, -2);
        makes("+", MIN, -1, MAX);
        makes("+", MIN, MIN, 0);
        makes("-", MIN, 1, MAX);
        makes("-", MAX, -1, MIN);
        makes("-", 0, MIN, MIN);
        makes("-", MIN, MAX, 1);
        makes("*", 65536, 65536, 0);
        makes("*", 65536, 32768, MIN);
        makes("*", 65537, 65537, 131073);
        makes("*", MAX, MAX, 1);
        makes("*", MAX, 2, -2);
        makes("*", MIN, -1, MIN);
        makes("*", MIN, MIN, 0);
        makes("/", MIN, -1, MIN);
        makes("%", MIN, -1, 0);
        // The last ones that need no wrap.
        makes("+", MAX, 0, MAX);
        makes("+", MAX - 1, 1, MAX);
        makes("-", MIN + 1, 1, MIN);
        makes("-", -1, MIN, MAX);
        makes("*", 46341, 46340, 2147441940);
        makes("*", -65536, 32768, MIN);
        makes("&", MIN, MAX, 0);
        makes("|", MIN, MAX, -1);
        makes("^", -1, MAX, MIN);
    }

    private static void endsGo() {
        CHECKS.sentence("the third kind to the first one, if its operand isn't 0, else to the"
                + " second one");
        for (int chosen : new int[] {1, -1, 2, 256, 65536, MAX, MIN, MIN + 1, 0}) {
            int wanted = chosen == 0 ? 2 : 1;
            String goals = "?1:2 h=1;. h=2;.";
            goes("a=?;a" + goals, chosen, wanted);
            goes("a=" + chosen + ";a" + goals, chosen, wanted);
            goes(chosen + goals, chosen, wanted);
        }
        goes(">1 h=1;. h=2;.", 5, 1);
        goes(">2 h=1;. h=2;.", 0, 2);
    }

    private static void goes(String text, int input, int wanted) {
        Flow x = Checks.loaded(text);
        x.input(input);
        x.run(9);
        CHECKS.due("'" + text + "' with " + input + ": goes to", x.value(7), wanted);
    }

    private static void eachIsAStep() {
        CHECKS.sentence("Each statement and each end is a STEP.");
        String[] texts = {".", "a=1;.", "a=?;.", "a=1+2;.", ">1 .", "0?0:1 .",
            "a=1;>1 b=2;a?2:2 c=3;.", "a=1;".repeat(80) + "."};
        int[] steps = {1, 2, 2, 2, 2, 2, 6, 81};
        for (int i = 0; i < texts.length; i++) {
            Flow x = Checks.loaded(texts[i]);
            CHECKS.due("'" + texts[i] + "': more than enough", x.run(steps[i] + 1), steps[i]);
            CHECKS.due("'" + texts[i] + "': just enough", x.run(steps[i]), steps[i]);
            CHECKS.due("'" + texts[i] + "': too few", x.run(steps[i] - 1), ConstantFlow.NONE);
        }
    }

    private static void block0IsComeTo() {
        CHECKS.sentence("block 0 is come to, all variables with 0, joined with what comes"
                + " otherwise");
        CHECKS.beginning(".", 0, "0 0 0 0 0 0 0 0");
        CHECKS.beginning(">0", 0, "0 0 0 0 0 0 0 0");
        CHECKS.beginning("a=1;>0", 0, "? 0 0 0 0 0 0 0");
        CHECKS.beginning("a=0;>0", 0, "0 0 0 0 0 0 0 0");
        CHECKS.beginning("h=?;>0", 0, "0 0 0 0 0 0 0 ?");
        CHECKS.beginning("a=1;>1 b=1;>0", 0, "? ? 0 0 0 0 0 0");
        CHECKS.beginning("a=1;. b=1;>0", 0, "0 0 0 0 0 0 0 0");
        CHECKS.comes("......", "ynnnnn");
    }

    private static void askedForIsAny() {
        CHECKS.sentence("? is ANY; numbers make a number as in running");
        CHECKS.end("a=?;.", 0, "? 0 0 0 0 0 0 0");
        CHECKS.end("a=5;a=?;.", 0, "? 0 0 0 0 0 0 0");
        CHECKS.end("a=?;a=5;.", 0, "5 0 0 0 0 0 0 0");
        CHECKS.end("a=?;b=a;a=5;.", 0, "5 ? 0 0 0 0 0 0");
        CHECKS.end("a=-2147483648;b=a;c=b-1;d=c+1;.", 0, "-2147483648 -2147483648 2147483647 "
                + "-2147483648 0 0 0 0");
    }

    private static void zeroWithAny() {
        CHECKS.sentence("times and & make 0 if one operand is 0");
        for (String operator : new String[] {"*", "&"}) {
            CHECKS.end("a=?;b=a" + operator + "0;.", 0, "? 0 0 0 0 0 0 0");
            CHECKS.end("a=?;b=0" + operator + "a;.", 0, "? 0 0 0 0 0 0 0");
            CHECKS.end("a=?;b=7;b=a" + operator + "h;.", 0, "? 0 0 0 0 0 0 0");
            CHECKS.end("a=?;b=7;b=h" + operator + "a;.", 0, "? 0 0 0 0 0 0 0");
            CHECKS.end("a=?;a=a" + operator + "-0;.", 0, "0 0 0 0 0 0 0 0");
            CHECKS.end("a=0" + operator + "0;b=5" + operator + "0;c=0" + operator + "5;.", 0,
                    "0 0 0 0 0 0 0 0");
            // What is 0 only by running, not by the facts, makes none.
            CHECKS.end("a=?;b=a-a;c=a" + operator + "b;.", 0, "? ? ? 0 0 0 0 0");
            for (String other : new String[] {"1", "-1", "2", "65536", "-2147483648"}) {
                CHECKS.end("a=?;b=a" + operator + other + ";c=" + other + operator + "a;.", 0,
                        "? ? ? 0 0 0 0 0");
            }
        }
    }

    private static void elseAnyWithAny() {
        CHECKS.sentence("else it is ANY if one operand is");
        for (String operator : "+ - / % | ^ < =".split(" ")) {
            for (String other : new String[] {"0", "1", "-1", "a", "h", "-2147483648"}) {
                CHECKS.end("a=?;b=a" + operator + other + ";c=" + other + operator + "a;.", 0,
                        "? ? ? 0 0 0 0 0");
            }
        }
        CHECKS.end("a=?;b=a*a;c=a&a;d=a;.", 0, "? ? ? ? 0 0 0 0");
    }

    private static void endsMayGo() {
        CHECKS.sentence("of the third kind both if its operand is ANY, else that one");
        CHECKS.comes("a=?;a?1:2 . . .", "yyyn");
        CHECKS.comes("a=?;a?1:1 . .", "yyn");
        for (String number : new String[] {"1", "-1", "2", "65536", "-2147483648", "2147483647"}) {
            CHECKS.comes(number + "?1:2 . .", "yyn");
            CHECKS.comes("a=" + number + ";a?1:2 . .", "yyn");
        }
        CHECKS.comes("0?1:2 . .", "yny");
        CHECKS.comes("-0?1:2 . .", "yny");
        CHECKS.comes("h?1:2 . .", "yny");
        CHECKS.comes("a=?;a=a*0;a?1:2 . .", "yny");
        // The operand counts behind all statements.
        CHECKS.comes("a=?;a=1;a?1:2 . .", "yyn");
        CHECKS.comes("a=1;a=?;a?1:2 . .", "yyy");
        // What the operand was is not kept for where the end goes.
        CHECKS.beginning("a=?;a?1:2 . .", 1, "? 0 0 0 0 0 0 0");
        CHECKS.beginning("a=?;a?1:2 . .", 2, "? 0 0 0 0 0 0 0");
        CHECKS.beginning("a=?;b=a=5;b?1:2 . .", 1, "? ? 0 0 0 0 0 0");
        CHECKS.comes("> 2 . .", "yny");
        CHECKS.comes(". >1", "yn");
        CHECKS.comes(">2 >3 . .", "ynyn");
    }

    private static void sameNumbersJoined() {
        CHECKS.sentence("JOINED: the same numbers are that number");
        for (int number : new int[] {0, 1, -1, MIN, MAX}) {
            String set = "b=" + number + ";>3 ";
            CHECKS.beginning("a=?;a?1:2 " + set + set + ".", 3, "? " + number + " 0 0 0 0 0 0");
        }
        // Three that come, and the same number made in other ways.
        CHECKS.beginning("a=?;a?1:2 b=6;>4 a?3:4 b=2*3;>4 .", 4, "? ? 0 0 0 0 0 0");
        CHECKS.beginning("a=?;b=6;a?1:2 b=7-1;>4 a?3:4 b=2*3;>4 .", 4, "? 6 0 0 0 0 0 0");
    }

    private static void allElseJoined() {
        CHECKS.sentence("all else is ANY");
        String[] others = {"b=2;", "b=0;", "b=-1;", "b=?;", "b=257;", "b=65537;", "b=-2147483647;",
            ""};
        for (String other : others) {
            CHECKS.beginning("a=?;a?1:2 b=1;>3 " + other + ">3 .", 3, "? ? 0 0 0 0 0 0");
            CHECKS.beginning("a=?;a?1:2 " + other + ">3 b=1;>3 .", 3, "? ? 0 0 0 0 0 0");
        }
        CHECKS.beginning("a=?;a?1:2 b=?;>3 b=?;>3 .", 3, "? ? 0 0 0 0 0 0");
        CHECKS.beginning("a=?;a?1:2 b=-2147483648;>3 b=2147483647;>3 .", 3, "? ? 0 0 0 0 0 0");
        // What is ANY in one variable leaves the other ones.
        CHECKS.beginning("a=?;a?1:2 b=1;h=5;>3 c=1;h=5;>3 .", 3, "? ? ? 0 0 0 0 5");
    }

    private static void factsAreTheLeast() {
        CHECKS.sentence("They are the least ones (fewest blocks come to, numbers before ANY)");
        // Two blocks that could each be the cause of the other are not come to.
        CHECKS.comes(". >2 >1", "ynn");
        // Facts that begin with ANY would find block 3 come to.
        CHECKS.comes("a=1;>1 b=a+0;a?2:3 a=b;>1 a=0;>1", "yyyn");
        CHECKS.beginning("a=1;>1 b=a+0;a?2:3 a=b;>1 a=0;>1", 1, "1 ? 0 0 0 0 0 0");
        CHECKS.end("a=5;>1 b=?;a=a*1;b?1:2 .", 2, "5 ? 0 0 0 0 0 0");
        // A loop that does not turn leaves the numbers; one that turns joins what comes back.
        CHECKS.end(">1 a=a+1;b=a<1;b?1:2 .", 2, "1 0 0 0 0 0 0 0");
        CHECKS.end(">1 a=a+1;b=a<2;b?1:2 .", 2, "? ? 0 0 0 0 0 0");
    }

    private static void blocksWritten() {
        CHECKS.sentence("the blocks that are come to, in their order, numbered from 0 on");
        CHECKS.writes(".", ".");
        CHECKS.writes(".".repeat(24), ".");
        CHECKS.writes(">23 " + ".".repeat(22) + ">23", ">1>1");
        CHECKS.writes(">23 " + ".".repeat(22) + ">0", ">1>0");
        CHECKS.writes(">1 a=?;>3 . a?1:5 . .", ">1a=?;>2a?1:3.");
        CHECKS.writes(">2 b=2;. a=1;>1", ">2b=2;.a=1;>1");
        // By the facts at its own beginning, not by those behind the block before it.
        CHECKS.writes("a=1;b=?;>2 c=a+b;. a=7;>1", "a=1;b=?;>2c=7+b;.a=7;>1");
        CHECKS.tells("a=?;>2 c=a;. a=7;>1", "3 3 3 3 2 0 0");
        StringBuilder all = new StringBuilder();
        StringBuilder anew = new StringBuilder();
        for (int block = 1; block < 24; block++) {
            all.append('>').append(block).append(' ');
            anew.append('>').append(block);
        }
        CHECKS.writes(all + ">23", anew + ">23");
    }

    private static void valuesWritten() {
        CHECKS.sentence("the number, if it is one; else as it was, with numbers for operands that"
                + " are such by the facts");
        CHECKS.writes("a=5;b=a;c=a*a;d=c-26;.", "a=5;b=5;c=25;d=-1;.");
        CHECKS.writes("a=?;b=a*0;c=0&a;.", "a=?;b=0;c=0;.");
        CHECKS.writes("a=?;b=a;c=a+b;.", "a=?;b=a;c=a+b;.");
        CHECKS.writes("a=?;b=5;c=a+b;d=b+a;e=a-h;f=h/a;.", "a=?;b=5;c=a+5;d=5+a;e=a-0;f=0/a;.");
        CHECKS.writes("a=?;b=-5;c=a-b;d=b-a;e=a=b;.", "a=?;b=-5;c=a--5;d=-5-a;e=a=-5;.");
        CHECKS.writes("b=2;a=?;b=a+b;b=a+b;a=1;a=a+b;.", "b=2;a=?;b=a+2;b=a+b;a=1;a=1+b;.");
        CHECKS.writes("a=?;b=a-a;c=a/0;d=a%1;.", "a=?;b=a-a;c=a/0;d=a%1;.");
    }

    private static void endsWritten() {
        CHECKS.sentence("> and the block's number, also for the third kind, if its operand is a"
                + " number by the facts (that to which it goes then); else the variable, ?, and");
        CHECKS.writes("5?1:0 .", ">1.");
        CHECKS.writes("0?1:0 .", ">0");
        CHECKS.writes("a=1;a?1:0 .", "a=1;>1.");
        CHECKS.writes("a=?;a=a&0;a?1:0 .", "a=?;a=0;>0");
        CHECKS.writes("a=?;a?1:0 .", "a=?;a?1:0.");
        CHECKS.writes("a=?;a?1:1 .", "a=?;a?1:1.");
        CHECKS.writes("a=?;a?2:2 . .", "a=?;a?1:1.");
        CHECKS.writes("a=?;b=7;b?0:0 .", "a=?;b=7;>0");
        CHECKS.writes("h=?;h?0:0", "h=?;h?0:0");
    }

    private static void figuresWritten() {
        CHECKS.sentence("Numbers are written with as few figures as there can be, no blanks.");
        for (long unit = 1; unit <= 1000000000; unit *= 10) {
            for (long number : new long[] {unit - 1, unit, unit + 1, 2 * unit}) {
                String sign = number == 0 ? "" : "-";
                CHECKS.writes("a=00" + number + ";.", "a=" + number + ";.");
                CHECKS.writes("a=-00" + number + ";.", "a=" + sign + number + ";.");
                CHECKS.writes("a=?;b=a+00" + number + ";.", "a=?;b=a+" + number + ";.");
                CHECKS.writes("a=?;b=-00" + number + "-a;.", "a=?;b=" + sign + number + "-a;.");
            }
        }
        CHECKS.writes("a=2147483647;b=-2147483648;.", "a=2147483647;b=-2147483648;.");
        CHECKS.writes("a=?;b=a/-0;.", "a=?;b=a/0;.");
        CHECKS.writes(" a = ? ; b = a + 00 ; a ? 00 : 01 > 001 ", "a=?;b=a+0;a?0:1>1");
        CHECKS.writes(">00010" + ".".repeat(9) + ">0010", ">1>1");
    }
}
