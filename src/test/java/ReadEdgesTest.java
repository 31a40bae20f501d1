/** The boundary cases of "Terms" that reading meets: one test for each sentence or part of one. */
public final class ReadEdgesTest {
    private static final Checks CHECKS = new Checks();
    private static final String LETTERS = "abcdefgh";
    private static final String FIGURES = "0123456789";
    private static final String OPERATORS = "+-*/%&|^<=";
    private static final String BEGINNINGS = LETTERS + FIGURES + "-.>";
    private static final String EIGHTY = "a=1;".repeat(80);

    public static void main(String[] args) {
        tapeOf700Bytes();
        oneOrMoreBlocks();
        blocksAreNumberedFrom0();
        blocksAre24AtMost();
        statementsAre80InAll();
        blanksCountNothing();
        blanksWithinNumbers();
        variablesAreAToH();
        bytesThatCanCome();
        tapesEnd();
        numbersInRange();
        numbersOutOfRange();
        blockNumbersOutOfRange();
        the81stStatement();
        aLetterWithoutEquals();
        the25thBlock();
        numbersOfNoBlock();
        theFirstNumberOfNoBlock();
        whenAllIsRead();
        theFirstFault();
        CHECKS.finish();
    }

    private static void tapeOf700Bytes() {
        CHECKS.sentence("THE TAPE has up to 700 bytes.");
        CHECKS.reads(" ".repeat(699) + ".", 1);
        CHECKS.reads("." + " ".repeat(698) + ".", 2);
        CHECKS.refuses(" ".repeat(699) + "x", 1, 699);
        CHECKS.refuses(" ".repeat(700), 1, 700);
        CHECKS.refuses(" ".repeat(699) + "a", 1, 700);
        CHECKS.refuses("a=" + "0".repeat(698), 1, 700);
        CHECKS.refuses("a=" + "9".repeat(698), 2, 2);
        CHECKS.reads("a=" + "0".repeat(695) + "7;.", 1);
    }

    private static void oneOrMoreBlocks() {
        CHECKS.sentence("A PROGRAM is one or more BLOCKS");
        CHECKS.refuses("", 1, 0);
        CHECKS.refuses(" ", 1, 1);
        CHECKS.refuses("a=1;", 1, 4);
        CHECKS.reads(".", 1);
        CHECKS.reads("..", 2);
    }

    private static void blocksAreNumberedFrom0() {
        CHECKS.sentence("BLOCKS behind one another, numbered from 0 on");
        CHECKS.reads(">0", 1);
        CHECKS.refuses(">1", 4, 1);
        Flow x = Checks.loaded(">2 a=1;. a=2;.");
        x.run(9);
        CHECKS.due("block 2 is the third one: value(0)", x.value(0), 2);
    }

    private static void blocksAre24AtMost() {
        CHECKS.sentence("24 at most");
        CHECKS.reads(".".repeat(23), 23);
        CHECKS.reads(".".repeat(24), 24);
        CHECKS.refuses(".".repeat(25), 3, 24);
        CHECKS.reads(">0 ".repeat(24), 24);
        CHECKS.refuses(">0 ".repeat(24) + ">0", 3, 72);
        CHECKS.reads("a=1;a?23:0 ".repeat(24), 24);
        Flow x = Checks.loaded(">23 " + ".".repeat(22) + "h=9;.");
        CHECKS.due("the 24th block: run(3)", x.run(3), 3);
        CHECKS.due("the 24th block: value(7)", x.value(7), 9);
        CHECKS.due("the 24th block: number", x.number(23, 7, true), 9);
    }

    private static void statementsAre80InAll() {
        CHECKS.sentence("any number of STATEMENTS (80 in all)");
        statements(".", 0);
        statements("a=1;".repeat(79) + ".", 79);
        statements(EIGHTY + ".", 80);
        statements(EIGHTY + ">0", 80);
        statements(EIGHTY + "a?0:0", 80);
        statements("." + EIGHTY + ".", 80);
        statements(("a=1;".repeat(4) + ".").repeat(20) + "....", 80);
        CHECKS.refuses("a=1;".repeat(81) + ".", 3, 320);
        Flow x = Checks.loaded("a=a+1;".repeat(80) + ".");
        CHECKS.due("80 statements: run(81)", x.run(81), 81);
        CHECKS.due("80 statements: value(0)", x.value(0), 80);
    }

    private static void statements(String text, int wanted) {
        CHECKS.due("'" + text + "': told(2)", Checks.loaded(text).told(2), wanted);
    }

    private static void blanksCountNothing() {
        CHECKS.sentence("Bytes not above 32 may stand anywhere .. and count nothing.");
        String[] parts = {"a", "=", "?", ";", "b", "=", "a", ";", "c", "=", "-12", "+", "a", ";",
            "d", "=", "a", "-", "-34", ";", "a", "?", "1", ":", "2", ">", "2", "-5", "?", "0", ":",
            "3", "."};
        String anew = "a=?;b=a;c=-12+a;d=a--34;a?1:2>2>0";
        for (int blank = 0; blank <= 33; blank++) {
            for (int gap = 0; gap <= parts.length; gap++) {
                String text = joined(parts, gap, (char) blank);
                if (blank == 33) {
                    CHECKS.refuses(text, 1, text.indexOf('!'));
                } else {
                    Flow x = new Flow();
                    String name = "blank " + blank + " in gap " + gap;
                    CHECKS.due(name + ": read()", Checks.load(x, text), 4);
                    CHECKS.due(name + ": anew", Checks.anew(x), anew);
                }
            }
        }
        // A byte is 0 to 255: those from 128 on are above 32.
        for (int high = 127; high <= 255; high++) {
            CHECKS.refuses((char) high + ".", 1, 0);
            CHECKS.refuses("." + (char) high, 1, 1);
        }
        CHECKS.reads(" \u0000\n\u001f\t. \u0000", 1);
    }

    /** The parts, and in one gap a byte twice. */
    private static String joined(String[] parts, int gap, char added) {
        StringBuilder text = new StringBuilder();
        for (int i = 0; i <= parts.length; i++) {
            text.append(i == gap ? "" + added + added : "");
            text.append(i < parts.length ? parts[i] : "");
        }
        return text.toString();
    }

    private static void blanksWithinNumbers() {
        CHECKS.sentence("anywhere but within a number");
        for (char blank = 0; blank <= 32; blank++) {
            // Between - and the figures nothing but a number goes on.
            CHECKS.refuses("a=-" + blank + "1;.", 1, 3);
            CHECKS.refuses("a=b+-" + blank + "1;.", 1, 5);
            CHECKS.refuses("-" + blank + "1?0:0", 1, 1);
            // Behind figures the number may end, so that the next figure is what can't come.
            CHECKS.refuses("a=1" + blank + "2;.", 1, 4);
            CHECKS.refuses("a=b*1" + blank + "2;.", 1, 6);
            CHECKS.refuses("1" + blank + "2?0:0", 1, 2);
            CHECKS.refuses("a?0" + blank + "0:0", 1, 4);
        }
        CHECKS.reads("a=12;.", 1);
        CHECKS.reads("a=-12;.", 1);
        // Two numbers: the block's, and the operand of the next block's end.
        CHECKS.reads(">1 1?0:0", 2);
        CHECKS.refuses(">11?0:0", 1, 3);
        CHECKS.reads("a?0:0 1?0:0", 2);
        CHECKS.refuses("a?0:01?0:0", 1, 6);
    }

    private static void variablesAreAToH() {
        CHECKS.sentence("a VARIABLE (a letter a .. h)");
        for (char c = 33; c < 256; c++) {
            boolean variable = c >= 'a' && c <= 'h';
            boolean figure = c >= '0' && c <= '9';
            takes(c + "=1;.", variable, 0, c == '.' || c == '>' || c == '-' || figure);
            takes("b=" + c + ";.", variable || figure, 2, c == '?' || c == '-');
            takes("b=c+" + c + ";.", variable || figure, 4, c == '-');
            takes(c + "?0:0", variable || figure, 0, c == '.' || c == '>' || c == '-');
        }
        for (int variable = 0; variable < 8; variable++) {
            char c = LETTERS.charAt(variable);
            Flow x = Checks.loaded(c + "=5;.");
            x.run(2);
            CHECKS.due(c + " is variable " + variable, x.value(variable), 5);
            CHECKS.due(c + " is variable " + variable, x.number(0, variable, true), 5);
        }
    }

    private static void takes(String text, boolean taken, int place, boolean otherwise) {
        if (taken) {
            CHECKS.reads(text, 1);
        } else if (!otherwise) {
            CHECKS.refuses(text, 1, place);
        }
    }

    /** Behind each beginning every byte is tried; the rows have those that the forms let come. */
    private static void bytesThatCanCome() {
        CHECKS.sentence("1 a byte that can't come there (at it");
        can("", BEGINNINGS, true);
        can("a", "=?", true);
        can("a=", LETTERS + FIGURES + "-?", true);
        can("a=?", ";", true);
        can("a=b", OPERATORS + ";", true);
        can("a=1", OPERATORS + ";" + FIGURES, true);
        can("a=-", FIGURES, false);
        can("a=-1", OPERATORS + ";" + FIGURES, true);
        can("a=b+", LETTERS + FIGURES + "-", true);
        can("a=1=", LETTERS + FIGURES + "-", true);
        can("a=b-", LETTERS + FIGURES + "-", true);
        can("a=b--", FIGURES, false);
        can("a=b+c", ";", true);
        can("a=b+1", ";" + FIGURES, true);
        can("a=b--1", ";" + FIGURES, true);
        can("a=?;", BEGINNINGS, true);
        can("a=b;", BEGINNINGS, true);
        can("a=b+c;", BEGINNINGS, true);
        can(".", BEGINNINGS, true);
        can(">", FIGURES, true);
        can(">0", FIGURES + BEGINNINGS, true);
        can("1", FIGURES + "?", true);
        can("-", FIGURES, false);
        can("-1", FIGURES + "?", true);
        can("a?", FIGURES, true);
        can("1?", FIGURES, true);
        can("a?0", FIGURES + ":", true);
        can("a?0:", FIGURES, true);
        can("a?0:0", FIGURES + BEGINNINGS, true);
    }

    private static void can(String begin, String bytes, boolean blanksToo) {
        for (char c = 0; c < 256; c++) {
            boolean fits = c <= 32 ? blanksToo : bytes.indexOf(c) >= 0;
            Flow x = new Flow();
            Checks.load(x, begin + c);
            boolean refused = x.fault() == 1 && x.place() == begin.length();
            CHECKS.due("'" + begin + "' and byte " + (int) c + ": can come", !refused, fits);
            if (!fits) {
                CHECKS.refuses(begin + c + " .", 1, begin.length());
            }
        }
    }

    private static void tapesEnd() {
        CHECKS.sentence("or the tape's end");
        String[] parts = {"a", "a=", "a=?", "a=b", "a=1", "a=-", "a=-1", "a=b+", "a=b-", "a=b--",
            "a=b+c", "a=b+1", "a=1;", "a=?;", "-", "1", "-1", ">", "a?", "1?", "a?0", "a?0:"};
        for (String part : parts) {
            CHECKS.refuses(part, 1, part.length());
            CHECKS.refuses("." + part, 1, 1 + part.length());
            if (!part.endsWith("-") || part.equals("a=b-")) {
                CHECKS.refuses(part + " \n\u0000", 1, part.length() + 3);
            }
        }
        CHECKS.reads(".", 1);
        CHECKS.reads(">0", 1);
        CHECKS.reads("a?0:0", 1);
    }

    private static void numbersInRange() {
        CHECKS.sentence("-2147483648 .. 2147483647");
        int[] numbers = {Integer.MIN_VALUE, Integer.MIN_VALUE + 1, -1, 0, 1, Integer.MAX_VALUE - 1,
            Integer.MAX_VALUE};
        for (int number : numbers) {
            copies(Integer.toString(number), number);
            String figures = Long.toString(Math.abs((long) number));
            copies((number < 0 ? "-" : "") + "0".repeat(30) + figures, number);
        }
        copies("-0", 0);
        copies("-000", 0);
        CHECKS.reads("2147483647?0:0", 1);
        CHECKS.reads("-2147483648?0:0", 1);
    }

    private static void copies(String figures, int number) {
        Flow x = Checks.loaded("a=" + figures + ";b=?;b=b+" + figures + ";.");
        CHECKS.due(figures + ": number()", x.number(0, 0, true), number);
        CHECKS.due(figures + ": run(4)", x.run(4), 4);
        CHECKS.due(figures + ": value(0)", x.value(0), number);
        CHECKS.due(figures + ": value(1)", x.value(1), number);
    }

    private static void numbersOutOfRange() {
        CHECKS.sentence("2 a number .. that is not -2147483648 .. 2147483647 (at its first byte)");
        String[] numbers = {"2147483648", "-2147483649", "2147483650", "4294967295", "4294967296",
            "-4294967296", "4294967301", "9223372036854775807", "9223372036854775808",
            "-9223372036854775809", "18446744073709551616", "18446744073709551621",
            "-18446744073709551616", "340282366920938463463374607431768211456",
            "0000000000000000002147483648", "-0000000000000000002147483649", "9".repeat(600)};
        for (String number : numbers) {
            CHECKS.refuses("a=" + number + ";.", 2, 2);
            CHECKS.refuses("a= " + number + " ;.", 2, 3);
            CHECKS.refuses("a=" + number + "+1;.", 2, 2);
            CHECKS.refuses("a=1+" + number + ";.", 2, 4);
            CHECKS.refuses("a=b-" + number + ";.", 2, 4);
            CHECKS.refuses(number + "?0:0", 2, 0);
            CHECKS.refuses(". " + number + "?0:0", 2, 2);
            CHECKS.refuses("a=" + number, 2, 2);
        }
        // What a - is makes no difference to the number behind it.
        CHECKS.refuses("a=b-2147483648;.", 2, 4);
        CHECKS.reads("a=b--2147483648;.", 1);
        CHECKS.reads("a=b-2147483647;.", 1);
    }

    private static void blockNumbersOutOfRange() {
        CHECKS.sentence("2 a number (a block's, too)");
        String[] numbers = {"2147483648", "4294967296", "18446744073709551616",
            "00000000000002147483648", "9".repeat(600)};
        for (String number : numbers) {
            CHECKS.refuses(">" + number, 2, 1);
            CHECKS.refuses(">  " + number + ".", 2, 3);
            CHECKS.refuses("a?" + number + ":0", 2, 2);
            CHECKS.refuses("a?0:" + number, 2, 4);
            CHECKS.refuses(".>0 1?0: " + number + " .", 2, 9);
        }
        CHECKS.refuses(">2147483647", 4, 1);
        CHECKS.refuses("a?2147483647:0", 4, 2);
        CHECKS.refuses("a?0:2147483647", 4, 4);
        CHECKS.reads(">" + "0".repeat(600), 1);
        CHECKS.reads("a?" + "0".repeat(300) + "1:" + "0".repeat(300) + ".", 2);
    }

    private static void the81stStatement() {
        CHECKS.sentence("3 the first byte of the 81st statement (a letter with = behind it)");
        CHECKS.refuses(EIGHTY + "b=1;.", 3, 320);
        CHECKS.refuses(EIGHTY + "b=", 3, 320);
        CHECKS.refuses(EIGHTY + "b=x", 3, 320);
        CHECKS.refuses(EIGHTY + "b=99999999999;.", 3, 320);
        CHECKS.refuses(EIGHTY + " \n b \u0000 = 1;.", 3, 323);
        CHECKS.refuses(EIGHTY + ".b=1;.", 3, 321);
        CHECKS.refuses(EIGHTY + ">0 a?0:0 h=?;.", 3, 329);
        CHECKS.refuses("a=1;".repeat(79) + ".a=1;.b=1;.", 3, 322);
        CHECKS.refuses("a=?;b=a;c=a+b;".repeat(26) + "a=?;b=a;c=a+b;", 3, 26 * 14 + 8);
        // The 80th is still taken for what it is.
        CHECKS.refuses("a=1;".repeat(79) + "b=x", 1, 318);
        CHECKS.refuses("a=1;".repeat(79) + "b=99999999999;", 2, 318);
    }

    private static void aLetterWithoutEquals() {
        CHECKS.sentence("(a letter with = behind it)");
        CHECKS.reads(EIGHTY + "b?0:0", 1);
        CHECKS.reads(EIGHTY + " b \n ?0:1 b?0:1", 2);
        CHECKS.refuses(EIGHTY + "b", 1, 321);
        CHECKS.refuses(EIGHTY + "b ", 1, 322);
        CHECKS.refuses(EIGHTY + "b;", 1, 321);
        CHECKS.refuses(EIGHTY + "b+1=", 1, 321);
        CHECKS.refuses(EIGHTY + "i=1;.", 1, 320);
        CHECKS.refuses(EIGHTY + "1=1;.", 1, 321);
        CHECKS.refuses(EIGHTY + "=", 1, 320);
    }

    private static void the25thBlock() {
        CHECKS.sentence("3 .. the byte with which the 25th block would begin (whatever it is)");
        String points = ".".repeat(24);
        for (char c = 0; c < 256; c++) {
            if (c <= 32) {
                CHECKS.reads(points + c, 24);
                CHECKS.refuses(points + c + ".", 3, 25);
            } else {
                CHECKS.refuses(points + c, 3, 24);
                CHECKS.refuses(points + "  " + c + " 9", 3, 26);
            }
        }
        CHECKS.refuses(".".repeat(23) + ">0;", 3, 25);
        CHECKS.refuses(".".repeat(23) + ">0 7", 3, 26);
        CHECKS.reads(".".repeat(23) + ">07", 24);
        CHECKS.refuses(".".repeat(23) + "a?0:0x", 3, 28);
        CHECKS.refuses(points + "99999999999", 3, 24);
        CHECKS.refuses(points + "b=1;", 3, 24);
        // Statements without an end begin a block, too.
        CHECKS.refuses(".".repeat(23) + "a=1;", 1, 27);
        CHECKS.refuses(EIGHTY + points + "b=1;", 3, 344);
    }

    private static void numbersOfNoBlock() {
        CHECKS.sentence("4 the number of a block that there is not (at its first byte");
        for (int blocks = 1; blocks <= 24; blocks++) {
            String more = " " + ".".repeat(blocks - 1);
            CHECKS.reads(">" + (blocks - 1) + more, blocks);
            CHECKS.refuses(">" + blocks + more, 4, 1);
            CHECKS.reads("a?" + (blocks - 1) + ":0" + more, blocks);
            CHECKS.refuses("a?" + blocks + ":0" + more, 4, 2);
            CHECKS.reads("a?0:" + (blocks - 1) + more, blocks);
            CHECKS.refuses("a?0:" + blocks + more, 4, 4);
        }
        CHECKS.refuses("> 001", 4, 2);
        CHECKS.refuses("> 001 ", 4, 2);
        CHECKS.refuses(".a=1;>  2", 4, 8);
        // Whether the block is come to, or the end goes there, makes no difference.
        CHECKS.refuses(". >7", 4, 3);
        CHECKS.refuses("1?0:7", 4, 4);
        CHECKS.refuses("0?7:0", 4, 2);
    }

    private static void theFirstNumberOfNoBlock() {
        CHECKS.sentence("the first such)");
        CHECKS.refuses("a?99:98", 4, 2);
        CHECKS.refuses("a?0:98 >99", 4, 4);
        CHECKS.refuses(">0 >99 >98", 4, 4);
        CHECKS.refuses(".>0>1>7>8", 4, 6);
        CHECKS.refuses("a?3:2 .>4", 4, 2);
        CHECKS.refuses(".".repeat(22) + "a?23:24 >25", 4, 27);
    }

    private static void whenAllIsRead() {
        CHECKS.sentence("When all is read: 4");
        CHECKS.refuses(">9 x", 1, 3);
        CHECKS.refuses(">9 a=1;", 1, 7);
        CHECKS.refuses(">9 a=99999999999;.", 2, 5);
        CHECKS.refuses(">9 >99999999999", 2, 4);
        CHECKS.refuses(">99" + ".".repeat(24), 3, 26);
        CHECKS.refuses(">99 " + "a=1;".repeat(81), 3, 324);
        CHECKS.refuses(">9 .", 4, 1);
        // A block that comes only later is there when all is read.
        CHECKS.reads(">3...", 4);
        CHECKS.refuses(">3..", 4, 1);
    }

    private static void theFirstFault() {
        CHECKS.sentence("FAULTS, the first from the beginning on");
        CHECKS.refuses("xy", 1, 0);
        CHECKS.refuses("a=99999999999 x", 2, 2);
        CHECKS.refuses("a=99999999999x", 2, 2);
        CHECKS.refuses("a=99999999999", 2, 2);
        CHECKS.refuses("a=x99999999999;.", 1, 2);
        CHECKS.refuses("a=1+x;b=99999999999;.", 1, 4);
        CHECKS.refuses("a=99999999999+88888888888;.", 2, 2);
        CHECKS.refuses("a?99999999999:x", 2, 2);
        CHECKS.refuses("a?x:99999999999", 1, 2);
        CHECKS.refuses("x" + EIGHTY + "b=1;", 1, 0);
        CHECKS.refuses(EIGHTY + "x b=1;", 1, 320);
        CHECKS.refuses(EIGHTY + "b=1;x", 3, 320);
        CHECKS.refuses(".".repeat(24) + ". x", 3, 24);
        CHECKS.refuses(".".repeat(23) + "x.", 1, 23);
        CHECKS.refuses(".".repeat(23) + "99999999999?0:0.", 2, 23);
    }
}
