/** Promises 4 to 6: read, fault, place. */
public final class ReadTest {
    private static final Checks CHECKS = new Checks();

    public static void main(String[] args) {
        readsPrograms();
        unfitBytes();
        tapesEnds();
        unfitNumbers();
        tooManyStatements();
        tooManyBlocks();
        missingBlocks();
        theFirstFaultCounts();
        faultsLeaveTheProgram();
        faultsLast();
        theTapeStays();
        CHECKS.finish();
    }

    private static void reads(String text, int blocks) {
        ConstantFlow x = new ConstantFlow();
        CHECKS.due("'" + text + "': read()", Checks.load(x, text), blocks);
        CHECKS.due("'" + text + "': fault()", x.fault(), 0);
        CHECKS.due("'" + text + "': place()", x.place(), ConstantFlow.NONE);
        CHECKS.due("'" + text + "': told(0)", x.told(0), blocks);
    }

    private static void refuses(String text, int fault, int place) {
        ConstantFlow x = new ConstantFlow();
        CHECKS.due("'" + text + "': read()", Checks.load(x, text), ConstantFlow.NONE);
        CHECKS.due("'" + text + "': fault()", x.fault(), fault);
        CHECKS.due("'" + text + "': place()", x.place(), place);
    }

    private static void readsPrograms() {
        reads(".", 1);
        reads("...", 3);
        reads(">0", 1);
        reads(">1.", 2);
        reads(">1>0", 2);
        reads(">1 0?0:1", 2);
        reads(">1-5?0:1", 2);
        reads("a?1:2..", 3);
        reads("a?0:0a?0:0", 2);
        reads("-7?0:0", 1);
        reads("a=?;.", 1);
        reads("a=b;h=-1;.", 1);
        reads("a=1--1;a=1-1;a=b-c;a=b--1;.", 1);
        reads("a=b=c;a=1=1;b=-0;.", 1);
        reads(">000.", 2);
        for (char operator : "+-*/%&|^<=".toCharArray()) {
            reads("a=b" + operator + "c;.", 1);
            reads("a=1" + operator + "-2;.", 1);
        }
        for (char letter = 'a'; letter <= 'h'; letter++) {
            reads(letter + "=" + letter + "+" + letter + ";" + letter + "?0:0", 1);
        }
        reads(" a\t=\n-1\r+ 2 ; b\u0000=\u001f? ; a ? 0 : 1 > 1 . ", 3);
    }

    private static void unfitBytes() {
        refuses("x", 1, 0);
        refuses("i=1;.", 1, 0);
        refuses("A=1;.", 1, 0);
        refuses("`=1;.", 1, 0);
        refuses("?", 1, 0);
        refuses(";.", 1, 0);
        refuses(":", 1, 0);
        refuses("=", 1, 0);
        refuses("+1?0:0", 1, 0);
        refuses("  x", 1, 2);
        refuses("\u007f.", 1, 0);
        refuses("\u0080.", 1, 0);
        refuses("\u00ff.", 1, 0);
        refuses("!.", 1, 0);
        refuses("a.", 1, 1);
        refuses("a b=1;.", 1, 2);
        refuses("a<b?0:0", 1, 1);
        refuses("ab=1;.", 1, 1);
        refuses("1=a;.", 1, 1);
        refuses("1.", 1, 1);
        refuses("a=;.", 1, 2);
        refuses("a=i;.", 1, 2);
        refuses("a=.;.", 1, 2);
        refuses("a==1;.", 1, 2);
        refuses("a=?1;.", 1, 3);
        refuses("a=?+1;.", 1, 3);
        refuses("a=1+?;.", 1, 4);
        refuses("a=b c;.", 1, 4);
        refuses("a=1 2;.", 1, 4);
        refuses("a=b+c+d;.", 1, 5);
        refuses("a=b>c;.", 1, 3);
        refuses("a=b!c;.", 1, 3);
        refuses("a=b?0:0", 1, 3);
        refuses("a=--1;.", 1, 3);
        refuses("a=b++1;.", 1, 4);
        refuses("a=b---1;.", 1, 5);
        refuses("a=+1;.", 1, 2);
        refuses("a=- 1;.", 1, 3);
        refuses("a=b-- 1;.", 1, 5);
        refuses("a=-b;.", 1, 3);
        refuses("- 1?0:0", 1, 1);
        refuses("-?0:0", 1, 1);
        refuses("a=1.;", 1, 3);
        refuses(">a", 1, 1);
        refuses(">-0", 1, 1);
        refuses("> .", 1, 2);
        refuses(">0;", 1, 2);
        refuses(".;", 1, 1);
        refuses("a?b:0", 1, 2);
        refuses("a?-0:0", 1, 2);
        refuses("a?0.", 1, 3);
        refuses("a?0 0:0", 1, 4);
        refuses("a?0:b", 1, 4);
        refuses("a?0:-1", 1, 4);
        refuses("a?:0", 1, 2);
    }

    private static void tapesEnds() {
        refuses("", 1, 0);
        refuses("   ", 1, 3);
        refuses("a", 1, 1);
        refuses("a ", 1, 2);
        refuses("a=", 1, 2);
        refuses("a=b", 1, 3);
        refuses("a=b  ", 1, 5);
        refuses("a=1", 1, 3);
        refuses("a=-", 1, 3);
        refuses("a=b-", 1, 4);
        refuses("a=b--", 1, 5);
        refuses("a=?", 1, 3);
        refuses("a=1;", 1, 4);
        refuses("-", 1, 1);
        refuses("1", 1, 1);
        refuses(">", 1, 1);
        refuses("a?", 1, 2);
        refuses("a?0", 1, 3);
        refuses("a?0:", 1, 4);
        refuses("a?0: \n", 1, 6);
        refuses(".a", 1, 2);
    }

    private static void unfitNumbers() {
        reads("a=2147483647;b=-2147483648;.", 1);
        reads("a=000000000000000000000000002147483647;.", 1);
        reads("a=-00000000000000000000000002147483648;.", 1);
        refuses("a=2147483648;.", 2, 2);
        refuses("a=-2147483649;.", 2, 2);
        refuses("a= -2147483649;.", 2, 3);
        refuses("a=b+2147483648;.", 2, 4);
        refuses("a=b--2147483649;.", 2, 4);
        refuses("2147483648?0:0", 2, 0);
        refuses("-2147483649?0:0", 2, 0);
        refuses("a=4294967296;.", 2, 2);
        refuses("a=18446744073709551616;.", 2, 2);
        refuses("a=-18446744073709551616;.", 2, 2);
        refuses("a=99999999999999999999999999999999999999999999999999;.", 2, 2);
        refuses("a=" + "9".repeat(698), 2, 2);
        refuses("a=99999999999", 2, 2);
        refuses(">2147483648", 2, 1);
        refuses("> 4294967296", 2, 2);
        refuses("a?2147483648:0", 2, 2);
        refuses("a?0:2147483648", 2, 4);
        refuses(">2147483647", 4, 1);
    }

    private static void tooManyStatements() {
        String eighty = "a=1;".repeat(80);
        reads(eighty + ".", 1);
        reads(eighty + "a?0:0", 1);
        reads(eighty + "7?0:0", 1);
        reads(eighty + " .a ?1 :0", 2);
        refuses(eighty + "b=1;.", 3, 320);
        refuses(eighty + " b =", 3, 321);
        refuses(eighty + "b=x", 3, 320);
        refuses(eighty + ".b=1;.", 3, 321);
        refuses("a=1;".repeat(79) + ".a=1;.b=1;.", 3, 322);
        refuses(eighty + "b", 1, 321);
        refuses(eighty + "b;", 1, 321);
        refuses(eighty + "b+1", 1, 321);
        refuses(eighty + "x=1;.", 1, 320);
        refuses(eighty, 1, 320);
        ConstantFlow x = new ConstantFlow();
        Checks.load(x, "a=1;".repeat(40) + ">1" + "b=?;".repeat(40) + ".");
        CHECKS.due("80 statements: told(2)", x.told(2), 80);
        CHECKS.due("80 statements: run(82)", x.run(82), 82);
    }

    private static void tooManyBlocks() {
        reads(".".repeat(24), 24);
        reads(".".repeat(24) + " \n\u0000", 24);
        refuses(".".repeat(25), 3, 24);
        refuses(".".repeat(24) + "  .", 3, 26);
        refuses(".".repeat(24) + "x", 3, 24);
        refuses(".".repeat(24) + "\u00ff", 3, 24);
        refuses(".".repeat(24) + "a=1;.", 3, 24);
        refuses(".".repeat(24) + "99999999999", 3, 24);
        refuses(".".repeat(23) + ">0;", 3, 25);
        refuses(".".repeat(23) + "a=1;", 1, 27);
        reads(">23" + ".".repeat(23), 24);
        refuses(">24" + ".".repeat(23), 4, 1);
    }

    private static void missingBlocks() {
        refuses(">1", 4, 1);
        refuses("> 01", 4, 2);
        refuses("a?0:99", 4, 4);
        refuses("a?99:98", 4, 2);
        refuses("a?1:1", 4, 2);
        refuses("5?0:1", 4, 4);
        refuses(".>0>1>7>8", 4, 6);
        refuses("a=1;.>0 a?1:3", 4, 12);
        refuses("0?7:0.", 4, 2);
        reads(">1 .", 2);
        reads("5?0:1.", 2);
    }

    private static void theFirstFaultCounts() {
        refuses(">9x", 1, 2);
        refuses(">9 a=99999999999;.", 2, 5);
        refuses("a=99999999999 x", 2, 2);
        refuses("a=99999999999x", 2, 2);
        refuses("a=x99999999999;.", 1, 2);
        refuses(">9" + ".".repeat(24), 3, 25);
        refuses("a=1;".repeat(80) + "b=99999999999;.", 3, 320);
        refuses("a=1;".repeat(79) + "b=99999999999;c=1;.", 2, 318);
    }

    private static void faultsLeaveTheProgram() {
        String[] broken = {"", "b=2;c=?;x", "b=2;c=99999999999;.", "b=2;c=3;>4", ".".repeat(25),
            "b=1;".repeat(81) + "."};
        for (String text : broken) {
            ConstantFlow x = Checks.loaded("a=?;b=a+1;a?1:2 >2 c=5;.");
            String before = state(x);
            CHECKS.due("'" + text + "': read()", Checks.load(x, text), ConstantFlow.NONE);
            CHECKS.due("'" + text + "': the program", state(x), before);
            CHECKS.due("'" + text + "': run(9)", x.run(9), 5);
            CHECKS.due("'" + text + "': value(1)", x.value(1), 1);
        }
    }

    private static String state(ConstantFlow x) {
        StringBuilder text = new StringBuilder(Checks.tallies(x));
        for (int block = 0; block < x.told(0); block++) {
            text.append(" / ").append(Checks.facts(x, block, false));
            text.append(" / ").append(Checks.facts(x, block, true));
        }
        return text.append(" / ").append(Checks.anew(x)).toString();
    }

    private static void faultsLast() {
        ConstantFlow x = new ConstantFlow();
        Checks.load(x, "a=1;x");
        x.wipe();
        Checks.feed(x, ".");
        x.write();
        x.take();
        x.run(3);
        CHECKS.due("kept: fault()", x.fault(), 1);
        CHECKS.due("kept: place()", x.place(), 4);
        Checks.load(x, ">7");
        CHECKS.due("next: fault()", x.fault(), 4);
        CHECKS.due("next: place()", x.place(), 1);
        Checks.load(x, ".");
        CHECKS.due("mended: fault()", x.fault(), 0);
        CHECKS.due("mended: place()", x.place(), ConstantFlow.NONE);
    }

    private static void theTapeStays() {
        ConstantFlow x = new ConstantFlow();
        Checks.feed(x, "a=1;");
        CHECKS.due("part: read()", x.read(), ConstantFlow.NONE);
        Checks.feed(x, ".");
        CHECKS.due("whole: read()", x.read(), 1);
        CHECKS.due("whole: read() again", x.read(), 1);
        Checks.feed(x, "b=2;.");
        CHECKS.due("more: read()", x.read(), 2);
        CHECKS.due("more: wipe()", x.wipe(), 10);
        CHECKS.due("wiped: told(0)", x.told(0), 2);
    }
}
