/**
 * The boundary cases of promises 1 to 18, and how many calls an object takes: one test for each
 * sentence or part of one. What refused calls leave as it was is RefusedTest's.
 */
public final class PromiseEdgesTest {
    private static final Checks CHECKS = new Checks();
    private static final int NONE = ConstantFlow.NONE;
    private static final int MIN = Integer.MIN_VALUE;
    private static final int MAX = Integer.MAX_VALUE;
    private static final String ZEROS = "0 0 0 0 0 0 0 0";

    public static void main(String[] args) {
        newHasAnEmptyTape();
        newHasOneBlockWithAPoint();
        newHasNoInputsAndNothingWritten();
        feedTakesTheLowest();
        feedTakesUpTo700();
        feedTakes1To8();
        wipeAnswersWhatItHad();
        readLeavesTheTape();
        readAnswersBlocks();
        faultIsOfTheLastRead();
        placeIsOnTheTape();
        comesOfBlocks();
        knownOfVariables();
        knownOfBlocksNotComeTo();
        numberOfVariables();
        numberWhereThereIsNone();
        toldOfEach();
        toldOf0To6();
        writeAnswersBytes();
        writtenFromAnyInt();
        writtenLast();
        takeWithNothingWritten();
        takeUpTo700();
        inputsUpTo32();
        clearAnswersInputs();
        runFromTheBeginning();
        runAnswersSteps();
        runsThatDidNotEnd();
        runTakes0To20000();
        valueOfVariables();
        valueBefore();
        askedOfTheLastRun();
        callsUpTo512();
        CHECKS.finish();
    }

    private static void newHasAnEmptyTape() {
        CHECKS.sentence("Promise 1: An empty tape");
        CHECKS.due("new: wipe()", new Flow().wipe(), 0);
        CHECKS.due("new: feed(1)", new Flow().feed(1, '.'), 1);
        Flow x = new Flow();
        CHECKS.due("new: read()", x.read(), NONE);
        CHECKS.due("new: fault()", x.fault(), 1);
        CHECKS.due("new: place()", x.place(), 0);
    }

    private static void newHasOneBlockWithAPoint() {
        CHECKS.sentence("Promise 1: the program is one block with a point");
        Flow x = new Flow();
        CHECKS.due("new: told", Checks.tallies(x), "1 1 0 0 0 0 0");
        CHECKS.due("new: comes(0)", x.comes(0), true);
        CHECKS.throwsDue("new: comes(1)", IndexOutOfBoundsException.class, () -> x.comes(1));
        CHECKS.due("new: beginning", Checks.facts(x, 0, false), ZEROS);
        CHECKS.due("new: end", Checks.facts(x, 0, true), ZEROS);
        CHECKS.due("new: run(0)", x.run(0), NONE);
        CHECKS.due("new: run(1)", x.run(1), 1);
        CHECKS.due("new: anew", Checks.anew(x), ".");
        Flow y = new Flow();
        y.read();
        CHECKS.due("new, and a fault read: anew", Checks.anew(y), ".");
    }

    private static void newHasNoInputsAndNothingWritten() {
        CHECKS.sentence("Promise 1: no inputs, nothing written");
        CHECKS.due("new: clear()", new Flow().clear(), 0);
        CHECKS.due("new: input(5)", new Flow().input(5), 1);
        Flow x = new Flow();
        for (int i : new int[] {MIN, -8, -1, 0, 1, 8, 700, MAX}) {
            CHECKS.due("new: written(" + i + ")", x.written(i), 0);
        }
        CHECKS.due("new: take()", x.take(), 0);
    }

    private static void feedTakesTheLowest() {
        CHECKS.sentence("Promise 2: The n lowest bytes of a long, the lowest first, come behind");
        String text = "a=1;b=2;";
        for (int n = 1; n <= 8; n++) {
            Flow x = new Flow();
            // Of the bytes above the n lowest none may come, though all are x.
            String cut = text.substring(0, n) + "x".repeat(8 - n);
            CHECKS.due("feed(" + n + ")", x.feed(n, Checks.eight(cut, 0)), n);
            CHECKS.due("the rest and a point", Checks.feed(x, text.substring(n) + "."), 9);
            CHECKS.due("fed in " + n + " and the rest: read()", x.read(), 1);
            CHECKS.due("fed in " + n + " and the rest: anew", Checks.anew(x), "a=1;b=2;.");
        }
        // The eighth byte is the highest of the long, and may have its highest bit.
        Flow y = new Flow();
        y.feed(8, 0xff20202020202020L);
        y.read();
        CHECKS.due("the eighth byte: place()", y.place(), 7);
        Flow z = new Flow();
        z.feed(8, 0x2e20202020202020L);
        CHECKS.due("the eighth byte: read()", z.read(), 1);
    }

    private static void feedTakesUpTo700() {
        CHECKS.sentence("Promise 2: Answers how many it has; NONE when there would be more than"
                + " 700.");
        for (int n = 1; n <= 8; n++) {
            Flow x = new Flow();
            String blanks = " ".repeat(701 - n);
            CHECKS.due("701 - " + n + " fed", Checks.feed(x, blanks), 701 - n);
            CHECKS.due("feed(" + n + ") to 701", x.feed(n, 0x2e2e2e2e2e2e2e2eL), NONE);
            // Not even those that would have had room are there.
            CHECKS.due("feed(" + n + ") to 701: read()", x.read(), NONE);
            CHECKS.due("feed(" + n + ") to 701: place()", x.place(), 701 - n);
            CHECKS.due("feed(" + n + ") to 701: wipe()", x.wipe(), 701 - n);
            Checks.feed(x, " ".repeat(700 - n));
            CHECKS.due("feed(" + n + ") to 700", x.feed(n, 0x2e2e2e2e2e2e2e2eL), 700);
            CHECKS.due("feed(" + n + ") to 700: read()", x.read(), n);
        }
        Flow y = new Flow();
        for (int i = 1; i <= 350; i++) {
            CHECKS.due("two bytes, the " + i + "th time", y.feed(2, 0x2020), 2 * i);
        }
        CHECKS.due("one more", y.feed(1, '.'), NONE);
    }

    private static void feedTakes1To8() {
        CHECKS.sentence("Promise 2: IllegalArgumentException: n is not 1 to 8");
        int[] wrong = {0, 9, -1, -8, 16, 256, 257, 264, MIN, MIN + 1, MAX};
        for (int n : wrong) {
            Flow x = new Flow();
            CHECKS.throwsDue("feed(" + n + ")", IllegalArgumentException.class,
                    () -> x.feed(n, 0x2e2e2e2e2e2e2e2eL));
            CHECKS.due("feed(" + n + "): wipe()", x.wipe(), 0);
            Checks.feed(x, " ".repeat(700));
            CHECKS.throwsDue("full: feed(" + n + ")", IllegalArgumentException.class,
                    () -> x.feed(n, 0x2e2e2e2e2e2e2e2eL));
            CHECKS.due("full: feed(" + n + "): wipe()", x.wipe(), 700);
        }
        CHECKS.due("feed(1)", new Flow().feed(1, 0), 1);
        CHECKS.due("feed(8)", new Flow().feed(8, 0), 8);
    }

    private static void wipeAnswersWhatItHad() {
        CHECKS.sentence("Promise 3: The tape is empty then. Answers how many bytes it had.");
        Flow x = new Flow();
        for (int bytes : new int[] {0, 1, 8, 699, 700}) {
            Checks.feed(x, ".".repeat(bytes));
            CHECKS.due(bytes + " bytes: wipe()", x.wipe(), bytes);
            CHECKS.due(bytes + " bytes: wipe() again", x.wipe(), 0);
            CHECKS.due(bytes + " bytes: read() behind it", x.read(), NONE);
            CHECKS.due(bytes + " bytes: place() behind it", x.place(), 0);
        }
        CHECKS.due("fed behind it", Checks.feed(x, "b=1;."), 5);
        CHECKS.due("fed behind it: read()", x.read(), 1);
    }

    private static void readLeavesTheTape() {
        CHECKS.sentence("Promise 4: The program becomes that of the tape (which stays).");
        Flow x = new Flow();
        Checks.feed(x, "a=1;.");
        CHECKS.due("read()", x.read(), 1);
        CHECKS.due("read() again", x.read(), 1);
        CHECKS.due("more is fed", Checks.feed(x, "b=2;"), 9);
        CHECKS.due("a part: read()", x.read(), NONE);
        CHECKS.due("a part: the tape stays", x.feed(1, '.'), 10);
        CHECKS.due("whole: read()", x.read(), 2);
        CHECKS.due("whole: told(2)", x.told(2), 2);
        CHECKS.due("whole: wipe()", x.wipe(), 10);
        // The program is the tape's when it was read, not what the tape became.
        CHECKS.due("wiped: told(2)", x.told(2), 2);
        Checks.feed(x, "c=3;.");
        CHECKS.due("fed, not read: anew", Checks.anew(x), "a=1;.");
    }

    private static void readAnswersBlocks() {
        CHECKS.sentence("Promise 4: Answers how many blocks it has; NONE .. the program stays.");
        Flow x = new Flow();
        // From the most blocks to the fewest and back, so that nothing of the last one is left.
        for (int blocks : new int[] {24, 1, 2, 24, 23}) {
            String text = "a=a+1;." + ".".repeat(blocks - 1);
            CHECKS.due(blocks + " blocks: read()", Checks.load(x, text), blocks);
            CHECKS.due(blocks + " blocks: told(0)", x.told(0), blocks);
            CHECKS.due(blocks + " blocks: told(2)", x.told(2), 1);
            CHECKS.due("a fault: read()", Checks.load(x, "b=1;>1 c=?;.x"), NONE);
            CHECKS.due(blocks + " blocks stay: told", Checks.tallies(x), blocks + " 1 1 1 1 0 0");
            CHECKS.due(blocks + " blocks stay: run(9)", x.run(9), 2);
        }
    }

    private static void faultIsOfTheLastRead() {
        CHECKS.sentence("Promise 5: 1 to 4; 0 when it met none, or there was none");
        Flow x = new Flow();
        CHECKS.due("no read: fault()", x.fault(), 0);
        String[] texts = {"x", "a=2147483648;.", ".".repeat(25), ">1", "."};
        int[] places = {0, 2, 24, 1, NONE};
        // Each fault follows each other one.
        for (int i = 0; i < 5; i++) {
            for (int k = 0; k < 5; k++) {
                Checks.load(x, texts[i]);
                CHECKS.due("'" + texts[i] + "': fault()", x.fault(), (i + 1) % 5);
                Checks.load(x, texts[k]);
                CHECKS.due("'" + texts[k] + "' behind it: fault()", x.fault(), (k + 1) % 5);
                CHECKS.due("'" + texts[k] + "' behind it: place()", x.place(), places[k]);
            }
        }
    }

    private static void placeIsOnTheTape() {
        CHECKS.sentence("Promise 6: The place of that fault on the tape; NONE when there is none.");
        CHECKS.due("no read: place()", new Flow().place(), NONE);
        CHECKS.refuses("x", 1, 0);
        CHECKS.refuses(" ".repeat(699) + "x", 1, 699);
        CHECKS.refuses(" ".repeat(700), 1, 700);
        CHECKS.reads(".", 1);
        Flow x = new Flow();
        Checks.load(x, "a=1;x");
        x.wipe();
        Checks.feed(x, ".");
        x.write();
        x.take();
        x.run(1);
        CHECKS.due("the tape is another one: place()", x.place(), 4);
        CHECKS.due("the tape is another one: fault()", x.fault(), 1);
    }

    private static void comesOfBlocks() {
        CHECKS.sentence("Promise 7: IndexOutOfBoundsException: there is no such block.");
        for (int blocks : new int[] {1, 2, 23, 24}) {
            Flow x = Checks.loaded(">" + (blocks - 1) + " " + ".".repeat(blocks - 1));
            CHECKS.due(blocks + " blocks: comes(0)", x.comes(0), true);
            CHECKS.due(blocks + " blocks: the last one", x.comes(blocks - 1), true);
            for (int block : new int[] {-1, blocks, blocks + 1, 24, 25, MIN, MAX}) {
                CHECKS.throwsDue(blocks + " blocks: comes(" + block + ")",
                        IndexOutOfBoundsException.class, () -> x.comes(block));
            }
        }
        CHECKS.sentence("Promise 7: Whether a block is come to.");
        CHECKS.due("comes", Checks.come(Checks.loaded(">2 . >3 . .")), "ynyyn");
        // The blocks are the program's, though more were there before, or a fault was read.
        Flow x = Checks.loaded("...");
        Checks.load(x, "..");
        Checks.load(x, "....x");
        CHECKS.due("comes(1)", x.comes(1), false);
        CHECKS.throwsDue("comes(2)", IndexOutOfBoundsException.class, () -> x.comes(2));
    }

    private static void knownOfVariables() {
        CHECKS.sentence("Promise 8: IndexOutOfBoundsException: there is no such block or"
                + " variable.");
        Flow x = Checks.loaded("a=?;h=?;>2 . .");
        for (boolean end : new boolean[] {false, true}) {
            for (int block : new int[] {-1, 3, 4, 24, MIN, MAX}) {
                CHECKS.throwsDue("known(" + block + ", 0)", IndexOutOfBoundsException.class,
                        () -> x.known(block, 0, end));
            }
            for (int variable : new int[] {-1, 8, 9, 97, MIN, MAX}) {
                for (int block : new int[] {-1, 0, 1, 2, 3}) {
                    CHECKS.throwsDue("known(" + block + ", " + variable + ")",
                            IndexOutOfBoundsException.class, () -> x.known(block, variable, end));
                }
            }
        }
        CHECKS.sentence("Promise 8: at its beginning, or behind all of its statements");
        CHECKS.due("beginning of 0", Checks.facts(x, 0, false), ZEROS);
        CHECKS.due("end of 0", Checks.facts(x, 0, true), "? 0 0 0 0 0 0 ?");
        CHECKS.due("beginning of 2", Checks.facts(x, 2, false), "? 0 0 0 0 0 0 ?");
        CHECKS.due("a number: known", x.known(0, 7, false), 1);
        CHECKS.due("ANY: known", x.known(0, 7, true), ConstantFlow.ANY);
    }

    private static void knownOfBlocksNotComeTo() {
        CHECKS.sentence("Promise 8: 0 when the block is not come to");
        Flow x = Checks.loaded("a=?;. a=1;b=?;>0 >1");
        for (int block = 1; block < 3; block++) {
            for (int variable = 0; variable < 8; variable++) {
                CHECKS.due("known(" + block + ", " + variable + ", false)",
                        x.known(block, variable, false), 0);
                CHECKS.due("known(" + block + ", " + variable + ", true)",
                        x.known(block, variable, true), 0);
            }
        }
        // A block that was come to in the program before is not one of this program's.
        Checks.load(x, "a=?;a?1:2 . .");
        Checks.load(x, ">2 . .");
        CHECKS.due("read since: known(1, 0, true)", x.known(1, 0, true), 0);
        CHECKS.due("read since: known(2, 0, true)", x.known(2, 0, true), 1);
    }

    private static void numberOfVariables() {
        CHECKS.sentence("Promise 9: That number. IndexOutOfBoundsException: there is no such");
        Flow x = Checks.loaded("a=-2147483648;h=2147483647;>2 . h=h+1;.");
        CHECKS.due("the least", x.number(0, 0, true), MIN);
        CHECKS.due("the greatest", x.number(0, 7, true), MAX);
        CHECKS.due("at the beginning", x.number(0, 7, false), 0);
        CHECKS.due("in the last block", x.number(2, 7, false), MAX);
        CHECKS.due("at its end", x.number(2, 7, true), MIN);
        for (boolean end : new boolean[] {false, true}) {
            for (int block : new int[] {-1, 3, 4, 24, MIN, MAX}) {
                CHECKS.throwsDue("number(" + block + ", 0)", IndexOutOfBoundsException.class,
                        () -> x.number(block, 0, end));
            }
            for (int variable : new int[] {-1, 8, 9, 97, MIN, MAX}) {
                CHECKS.throwsDue("number(2, " + variable + ")", IndexOutOfBoundsException.class,
                        () -> x.number(2, variable, end));
            }
        }
    }

    private static void numberWhereThereIsNone() {
        CHECKS.sentence("Promise 9: IllegalStateException: it is none.");
        Flow x = Checks.loaded("a=?;h=5;. b=1;.");
        CHECKS.throwsDue("ANY: number", IllegalStateException.class, () -> x.number(0, 0, true));
        CHECKS.due("not yet ANY: number", x.number(0, 0, false), 0);
        CHECKS.due("beside ANY: number", x.number(0, 7, true), 5);
        for (int variable = 0; variable < 8; variable++) {
            int v = variable;
            CHECKS.throwsDue("not come to: number(1, " + v + ", false)",
                    IllegalStateException.class, () -> x.number(1, v, false));
            CHECKS.throwsDue("not come to: number(1, " + v + ", true)",
                    IllegalStateException.class, () -> x.number(1, v, true));
        }
    }

    private static void toldOfEach() {
        CHECKS.sentence("Promise 10: How many blocks there are .. operand that is a number");
        CHECKS.tells(".", "1 1 0 0 0 0 0");
        CHECKS.tells(".".repeat(24), "24 1 0 0 0 0 0");
        CHECKS.tells("a=?;" + "a?0:1 ".repeat(23) + ".", "24 2 1 1 0 2 0");
        CHECKS.tells(">1 " + "a=1;".repeat(80) + ".", "2 2 80 80 80 0 0");
        CHECKS.tells("." + "a=1;".repeat(80) + ".", "2 1 80 0 0 0 0");
        CHECKS.tells("a=?;".repeat(80) + ".", "1 1 80 80 0 0 0");
        CHECKS.tells("a=?;" + "b=a*0;".repeat(79) + ".", "1 1 80 80 79 0 0");
        CHECKS.tells("a=?;a=a;a=5;a=a;.", "1 1 4 4 2 0 0");
        // Ends of the third kind with a number, a variable that is one, ANY, and not come to.
        CHECKS.tells("5?1:0 b?0:2 a=?;a?3:3 >0 a?0:0 1?0:0", "6 4 1 1 0 3 2");
        CHECKS.tells("a=?;a?0:0", "1 1 1 1 0 1 0");
        CHECKS.tells("1?0:0", "1 1 0 0 0 1 1");
        StringBuilder all = new StringBuilder();
        for (int block = 1; block < 24; block++) {
            all.append("1?").append(block).append(":0 ");
        }
        CHECKS.tells(all + "0?0:23", "24 24 0 0 0 24 24");
        CHECKS.tells("a=?;" + all.toString().replace("1?", "a?") + "a?0:23", "24 24 1 1 0 24 0");
    }

    private static void toldOf0To6() {
        CHECKS.sentence("Promise 10: IllegalArgumentException: another what.");
        Flow x = Checks.loaded("a=1;1?0:0");
        CHECKS.due("told(0)", x.told(0), 1);
        CHECKS.due("told(6)", x.told(6), 1);
        for (int what : new int[] {-1, 7, 8, 256, MIN, MAX}) {
            CHECKS.throwsDue("told(" + what + ")", IllegalArgumentException.class,
                    () -> x.told(what));
        }
    }

    private static void writeAnswersBytes() {
        CHECKS.sentence("Promise 11: Writes the program anew. Answers how many bytes that are.");
        CHECKS.due("the least: write()", new Flow().write(), 1);
        StringBuilder text = new StringBuilder("a=?;b=-2147483648;");
        StringBuilder anew = new StringBuilder("a=?;b=-2147483648;");
        for (int i = 2; i < 80; i++) {
            text.append("a=a+b;");
            anew.append("a=a+-2147483648;");
        }
        for (int i = 1; i < 24; i++) {
            text.append("a?23:").append(i).append(' ');
            anew.append("a?23:").append(i);
        }
        text.append("a?23:23");
        anew.append("a?23:23");
        // Longer ones can't be read: the tape has 700 bytes.
        Flow x = Checks.loaded(text.toString());
        CHECKS.due("a long one: write()", x.write(), anew.length());
        CHECKS.due("a long one: written", Checks.lastWritten(x, anew.length()), anew.toString());
        CHECKS.due("a long one: behind its end", x.written(anew.length()), 0);
        CHECKS.due("a long one: write() again", x.write(), anew.length());
    }

    private static void writtenFromAnyInt() {
        CHECKS.sentence("Promise 12: from byte i on (any int), the first one the lowest; 0 where");
        String[] texts = {".", "a=?;b=1;", "a=?;b=a+12;"};
        for (String text : texts) {
            String anew = text.endsWith(";") ? text + "." : text;
            Flow x = Checks.loaded(anew);
            int length = x.write();
            CHECKS.due("'" + anew + "': write()", length, anew.length());
            for (int i = -10; i < length + 10; i++) {
                CHECKS.due("'" + anew + "': written(" + i + ")", x.written(i),
                        Checks.eight(anew, i));
            }
            int[] far = {MIN, MIN + 1, MIN + 7, MIN + 8, MAX, MAX - 1, MAX - 6, MAX - 7, MAX - 8,
                -8, length, 700, 1447, 1448, 65536, -65536};
            for (int i : far) {
                CHECKS.due("'" + anew + "': written(" + i + ")", x.written(i), 0);
            }
        }
    }

    private static void writtenLast() {
        CHECKS.sentence("Promise 12: of what was written last");
        Flow x = Checks.loaded("a=1;b=2;.");
        CHECKS.due("nothing yet: written(0)", x.written(0), 0);
        x.write();
        Checks.load(x, ".");
        CHECKS.due("another program is read: written(0)", x.written(0),
                Checks.eight("a=1;b=2;.", 0));
        x.write();
        CHECKS.due("a shorter one: written(0)", x.written(0), '.');
        CHECKS.due("a shorter one: written(1)", x.written(1), 0);
        CHECKS.due("a shorter one: written(-7)", x.written(-7), (long) '.' << 56);
        CHECKS.due("a shorter one: written(-8)", x.written(-8), 0);
        x.take();
        x.wipe();
        CHECKS.due("taken and wiped: written(0)", x.written(0), '.');
    }

    private static void takeWithNothingWritten() {
        CHECKS.sentence("Promise 13: What was written last (no bytes, if nothing was) becomes the"
                + " tape.");
        Flow x = new Flow();
        Checks.feed(x, "a=1;.");
        CHECKS.due("nothing written: take()", x.take(), 0);
        CHECKS.due("nothing written: wipe()", x.wipe(), 0);
        Checks.feed(x, ".");
        x.take();
        CHECKS.due("nothing written: read()", x.read(), NONE);
        CHECKS.due("nothing written: place()", x.place(), 0);
        x.write();
        Checks.feed(x, " ".repeat(700));
        CHECKS.due("a full tape: take()", x.take(), 1);
        CHECKS.due("taken: feed", x.feed(8, 0x2020202020202020L), 9);
        CHECKS.due("taken: read()", x.read(), 1);
        CHECKS.due("take() again", x.take(), 1);
        CHECKS.due("taken again: wipe()", x.wipe(), 1);
    }

    private static void takeUpTo700() {
        CHECKS.sentence("Promise 13: Answers how many bytes that are; NONE when they are more"
                + " than 700.");
        for (int length = 698; length <= 702; length++) {
            String text = writtenIn(length);
            Flow x = Checks.loaded(text);
            CHECKS.due(length + " bytes: write()", x.write(), length);
            x.wipe();
            Checks.feed(x, "..");
            CHECKS.due(length + " bytes: take()", x.take(), length > 700 ? NONE : length);
            CHECKS.due(length + " bytes: read()", x.read(), length > 700 ? 2 : 1);
            CHECKS.due(length + " bytes: wipe()", x.wipe(), length > 700 ? 2 : length);
        }
        Flow y = Checks.loaded(writtenIn(700));
        y.write();
        y.take();
        CHECKS.due("700 bytes taken: feed(1)", y.feed(1, ' '), NONE);
        y.read();
        CHECKS.due("700 bytes taken and read: write()", y.write(), 700);
    }

    /** A short program that is written anew in so many bytes (698 to 702). */
    private static String writtenIn(int length) {
        // 49 statements of 14 bytes, one of 4, and four bytes round the figures of the last one.
        return "a=-2147483648;" + "b=a;".repeat(48) + "c=7;c=" + "1".repeat(length - 694) + ";.";
    }

    private static void inputsUpTo32() {
        CHECKS.sentence("Promise 14: An input behind the others. Answers how many there are; NONE"
                + " when there are 32.");
        Flow x = new Flow();
        for (int i = 1; i <= 32; i++) {
            CHECKS.due("input " + i, x.input(i == 1 ? MIN : i == 32 ? MAX : i), i);
        }
        CHECKS.due("input 33", x.input(99), NONE);
        CHECKS.due("input 34", x.input(99), NONE);
        // The last of so many ? is kept in b.
        int[] wanted = {MIN, 2, 31, MAX, 0};
        int[] marks = {1, 2, 31, 32, 33};
        for (int i = 0; i < marks.length; i++) {
            Checks.load(x, "b=?;a=a+1;c=a<" + marks[i] + ";c?0:1 .");
            x.run(20000);
            CHECKS.due("input " + marks[i] + " of 32", x.value(1), wanted[i]);
        }
        CHECKS.due("clear()", x.clear(), 32);
        CHECKS.due("cleared: input", x.input(5), 1);
    }

    private static void clearAnswersInputs() {
        CHECKS.sentence("Promise 15: No inputs. Answers how many there were.");
        Flow x = Checks.loaded("a=?;b=?;.");
        for (int inputs : new int[] {0, 1, 31, 32}) {
            for (int i = 0; i < inputs; i++) {
                x.input(9);
            }
            CHECKS.due(inputs + " inputs: clear()", x.clear(), inputs);
            CHECKS.due(inputs + " inputs: clear() again", x.clear(), 0);
            CHECKS.due(inputs + " inputs: run(3)", x.run(3), 3);
            CHECKS.due(inputs + " inputs: none left", Checks.values(x), ZEROS);
        }
        x.input(4);
        x.run(3);
        CHECKS.due("one behind clear()", Checks.values(x), "4 0 0 0 0 0 0 0");
    }

    private static void runFromTheBeginning() {
        CHECKS.sentence("Promise 16: from its beginning, with all inputs from the first one on");
        Flow x = Checks.loaded("a=?;b=b+a;.");
        x.input(3);
        x.input(4);
        for (int i = 0; i < 3; i++) {
            // A run that stops in the middle is not gone on with.
            CHECKS.due("run(2)", x.run(2), NONE);
            CHECKS.due("run(3)", x.run(3), 3);
            CHECKS.due("values", Checks.values(x), "3 3 0 0 0 0 0 0");
        }
        CHECKS.due("all inputs are still there", x.clear(), 2);
    }

    private static void runAnswersSteps() {
        CHECKS.sentence("Promise 16: at most so many steps. Answers how many were done if it"
                + " ended");
        // Three steps a turn, 6666 turns, and two or three steps more.
        Flow x = Checks.loaded("a=a+1;b=a<6666;b?0:1 c=1;.");
        CHECKS.due("20000 steps: run(20000)", x.run(20000), 20000);
        CHECKS.due("20000 steps: value(0)", x.value(0), 6666);
        CHECKS.due("20000 steps: run(19999)", x.run(19999), NONE);
        CHECKS.due("20000 steps: value(2)", x.value(2), 1);
        CHECKS.due("20000 steps: run(19998)", x.run(19998), NONE);
        CHECKS.due("20000 steps: value(2)", x.value(2), 0);
        Checks.load(x, "a=a+1;b=a<6666;b?0:1 c=1;c=2;.");
        CHECKS.due("20001 steps: run(20000)", x.run(20000), NONE);
        CHECKS.due("20001 steps: value(2)", x.value(2), 2);
        Checks.load(x, "b=2;.");
        CHECKS.due("2 steps: run(1)", x.run(1), NONE);
        CHECKS.due("2 steps: run(2)", x.run(2), 2);
        CHECKS.due("2 steps: run(3)", x.run(3), 2);
    }

    private static void runsThatDidNotEnd() {
        CHECKS.sentence("Promise 16: NONE if it did not (variables and inputs are then as they are"
                + " behind these)");
        Flow x = Checks.loaded("a=?;b=?;c=?;>0");
        for (int i = 1; i <= 4; i++) {
            x.input(i);
        }
        String[] values = {"0 0 0", "1 0 0", "1 2 0", "1 2 3", "1 2 3", "4 2 3", "4 0 3", "4 0 0",
            "4 0 0", "0 0 0"};
        int[] asked = {0, 1, 2, 3, 3, 4, 5, 6, 6, 7};
        for (int steps = values.length - 1; steps >= 0; steps--) {
            CHECKS.due("run(" + steps + ")", x.run(steps), NONE);
            CHECKS.due("values behind " + steps, Checks.values(x), values[steps] + " 0 0 0 0 0");
            CHECKS.due("asked() behind " + steps, x.asked(), asked[steps]);
        }
        CHECKS.due("run(20000)", x.run(20000), NONE);
        CHECKS.due("asked() behind 20000", x.asked(), 15000);
        CHECKS.due("the inputs stay", x.input(5), 5);
        Flow y = Checks.loaded(">0");
        CHECKS.due("nothing but an end: run(20000)", y.run(20000), NONE);
    }

    private static void runTakes0To20000() {
        CHECKS.sentence("Promise 16: IllegalArgumentException: steps is not 0 to 20000.");
        Flow x = new Flow();
        for (int steps : new int[] {-1, -2, 20001, 20002, 65536, MIN, MAX}) {
            CHECKS.throwsDue("run(" + steps + ")", IllegalArgumentException.class,
                    () -> x.run(steps));
        }
        CHECKS.due("run(0)", x.run(0), NONE);
        CHECKS.due("run(1)", x.run(1), 1);
        CHECKS.due("run(20000)", x.run(20000), 1);
    }

    private static void valueOfVariables() {
        CHECKS.sentence("Promise 17: IndexOutOfBoundsException: there is none.");
        Flow x = Checks.loaded("a=-2147483648;h=2147483647;.");
        x.run(3);
        CHECKS.due("value(0)", x.value(0), MIN);
        CHECKS.due("value(7)", x.value(7), MAX);
        for (int variable : new int[] {-1, 8, 9, 97, 104, MIN, MAX}) {
            CHECKS.throwsDue("value(" + variable + ")", IndexOutOfBoundsException.class,
                    () -> x.value(variable));
            CHECKS.throwsDue("no run: value(" + variable + ")", IndexOutOfBoundsException.class,
                    () -> new Flow().value(variable));
        }
    }

    private static void valueBefore() {
        CHECKS.sentence("Promise 17: A variable's value behind the last run; 0 before.");
        Flow x = Checks.loaded("a=5;h=6;. b=1;.");
        CHECKS.due("no run: values", Checks.values(x), ZEROS);
        x.run(3);
        CHECKS.due("run: values", Checks.values(x), "5 0 0 0 0 0 0 6");
        Checks.load(x, "b=7;.");
        x.clear();
        x.write();
        CHECKS.due("another program: values", Checks.values(x), "5 0 0 0 0 0 0 6");
        x.run(2);
        CHECKS.due("another run: values", Checks.values(x), "0 7 0 0 0 0 0 0");
        x.run(0);
        CHECKS.due("no step: values", Checks.values(x), ZEROS);
    }

    private static void askedOfTheLastRun() {
        CHECKS.sentence("Promise 18: How many ? the last run met; 0 before.");
        Flow x = Checks.loaded("a=?;b=1;c=?;. d=?;.");
        x.input(1);
        CHECKS.due("no run: asked()", x.asked(), 0);
        int[] asked = {0, 1, 1, 2, 2};
        for (int steps = 4; steps >= 0; steps--) {
            x.run(steps);
            // Those that no input was left for count as well.
            CHECKS.due("run(" + steps + "): asked()", x.asked(), asked[steps]);
        }
        x.run(4);
        x.clear();
        Checks.load(x, ".");
        CHECKS.due("another program: asked()", x.asked(), 2);
        x.run(1);
        CHECKS.due("a run without ?: asked()", x.asked(), 0);
        Flow y = Checks.loaded("a=?;".repeat(79) + ">0");
        y.run(20000);
        CHECKS.due("run(20000): asked()", y.asked(), 19750);
        y.run(80);
        CHECKS.due("run(80): asked()", y.asked(), 79);
    }

    private static void callsUpTo512() {
        CHECKS.sentence("An object is used for at most 512 calls after it has been made");
        Flow x = new Flow();
        for (int i = 0; i < 350; i++) {
            CHECKS.due("feed, call " + x.calls(), x.feed(2, 0x2020), 2 * i + 2);
        }
        x.wipe();
        Checks.load(x, "a=?;b=a+1;b?0:1 .");
        x.input(-1);
        while (x.calls() < Flow.CALLS_MOST - 4) {
            CHECKS.due("read(), call " + x.calls(), x.read(), 2);
            CHECKS.due("run(20000), call " + x.calls(), x.run(20000), 4);
        }
        while (x.calls() < Flow.CALLS_MOST) {
            CHECKS.due("value(0), call " + x.calls(), x.value(0), -1);
        }
        CHECKS.due("calls", x.calls(), 512);
        everyCallA512th();
    }

    /** Each method as the 512th call. */
    private static void everyCallA512th() {
        String text = "a=?;b=2;b?2:1 . >1";
        CHECKS.due("feed", used(text).feed(1, '.'), text.length() + 1);
        CHECKS.due("wipe", used(text).wipe(), text.length());
        CHECKS.due("read", used(text).read(), 3);
        CHECKS.due("fault", used(text).fault(), 0);
        CHECKS.due("place", used(text).place(), NONE);
        CHECKS.due("comes", used(text).comes(2), true);
        CHECKS.due("known", used(text).known(1, 0, true), ConstantFlow.ANY);
        CHECKS.due("number", used(text).number(1, 1, true), 2);
        CHECKS.due("told", used(text).told(4), 1);
        CHECKS.due("write", used(text).write(), "a=?;b=2;>2.>1".length());
        CHECKS.due("written", used(text).written(0), Checks.eight("a=?;b=2;", 0));
        CHECKS.due("take", used(text).take(), "a=?;b=2;>2.>1".length());
        CHECKS.due("input", used(text).input(5), 2);
        CHECKS.due("clear", used(text).clear(), 1);
        CHECKS.due("run", used(text).run(20000), 5);
        CHECKS.due("value", used(text).value(0), 8);
        CHECKS.due("asked", used(text).asked(), 1);
    }

    private static Flow used(String text) {
        Flow x = Checks.loaded(text);
        x.input(8);
        while (x.calls() < Flow.CALLS_MOST - 2) {
            x.run(20000);
        }
        x.write();
        return x;
    }
}
