/** Promises 4 to 6, in ordinary cases: read, fault, place. */
public final class ReadTest {
    private static final Checks CHECKS = new Checks();

    public static void main(String[] args) {
        readsPrograms();
        unfitBytes();
        otherFaults();
        faultsLeaveTheProgram();
        CHECKS.finish();
    }

    private static void readsPrograms() {
        CHECKS.reads(".", 1);
        CHECKS.reads("...", 3);
        CHECKS.reads(">0", 1);
        CHECKS.reads(">1.", 2);
        CHECKS.reads(">1>0", 2);
        CHECKS.reads(">1 0?0:1", 2);
        CHECKS.reads(">1-5?0:1", 2);
        CHECKS.reads("a?1:2..", 3);
        CHECKS.reads("a?0:0a?0:0", 2);
        CHECKS.reads("-7?0:0", 1);
        CHECKS.reads("a=?;.", 1);
        CHECKS.reads("a=b;h=-1;.", 1);
        CHECKS.reads("a=1--1;a=1-1;a=b-c;a=b--1;.", 1);
        CHECKS.reads("a=b=c;a=1=1;b=-0;.", 1);
        CHECKS.reads(">000.", 2);
        for (char operator : "+-*/%&|^<=".toCharArray()) {
            CHECKS.reads("a=b" + operator + "c;.", 1);
            CHECKS.reads("a=1" + operator + "-2;.", 1);
        }
        for (char letter = 'a'; letter <= 'h'; letter++) {
            CHECKS.reads(letter + "=" + letter + "+" + letter + ";" + letter + "?0:0", 1);
        }
        CHECKS.reads(" a\t=\n-1\r+ 2 ; b\u0000=\u001f? ; a ? 0 : 1 > 1 . ", 3);
    }

    private static void unfitBytes() {
        CHECKS.refuses("x", 1, 0);
        CHECKS.refuses("i=1;.", 1, 0);
        CHECKS.refuses("A=1;.", 1, 0);
        CHECKS.refuses("`=1;.", 1, 0);
        CHECKS.refuses("?", 1, 0);
        CHECKS.refuses(";.", 1, 0);
        CHECKS.refuses(":", 1, 0);
        CHECKS.refuses("=", 1, 0);
        CHECKS.refuses("+1?0:0", 1, 0);
        CHECKS.refuses("  x", 1, 2);
        CHECKS.refuses("\u007f.", 1, 0);
        CHECKS.refuses("\u0080.", 1, 0);
        CHECKS.refuses("\u00ff.", 1, 0);
        CHECKS.refuses("!.", 1, 0);
        CHECKS.refuses("a.", 1, 1);
        CHECKS.refuses("a b=1;.", 1, 2);
        CHECKS.refuses("a<b?0:0", 1, 1);
        CHECKS.refuses("ab=1;.", 1, 1);
        CHECKS.refuses("1=a;.", 1, 1);
        CHECKS.refuses("1.", 1, 1);
        CHECKS.refuses("a=;.", 1, 2);
        CHECKS.refuses("a=i;.", 1, 2);
        CHECKS.refuses("a=.;.", 1, 2);
        CHECKS.refuses("a==1;.", 1, 2);
        CHECKS.refuses("a=?1;.", 1, 3);
        CHECKS.refuses("a=?+1;.", 1, 3);
        CHECKS.refuses("a=1+?;.", 1, 4);
        CHECKS.refuses("a=b c;.", 1, 4);
        CHECKS.refuses("a=1 2;.", 1, 4);
        CHECKS.refuses("a=b+c+d;.", 1, 5);
        CHECKS.refuses("a=b>c;.", 1, 3);
        CHECKS.refuses("a=b!c;.", 1, 3);
        CHECKS.refuses("a=b?0:0", 1, 3);
        CHECKS.refuses("a=--1;.", 1, 3);
        CHECKS.refuses("a=b++1;.", 1, 4);
        CHECKS.refuses("a=b---1;.", 1, 5);
        CHECKS.refuses("a=+1;.", 1, 2);
        CHECKS.refuses("a=- 1;.", 1, 3);
        CHECKS.refuses("a=b-- 1;.", 1, 5);
        CHECKS.refuses("a=-b;.", 1, 3);
        CHECKS.refuses("- 1?0:0", 1, 1);
        CHECKS.refuses("-?0:0", 1, 1);
        CHECKS.refuses("a=1.;", 1, 3);
        CHECKS.refuses(">a", 1, 1);
        CHECKS.refuses(">-0", 1, 1);
        CHECKS.refuses("> .", 1, 2);
        CHECKS.refuses(">0;", 1, 2);
        CHECKS.refuses(".;", 1, 1);
        CHECKS.refuses("a?b:0", 1, 2);
        CHECKS.refuses("a?-0:0", 1, 2);
        CHECKS.refuses("a?0.", 1, 3);
        CHECKS.refuses("a?0 0:0", 1, 4);
        CHECKS.refuses("a?0:b", 1, 4);
        CHECKS.refuses("a?0:-1", 1, 4);
        CHECKS.refuses("a?:0", 1, 2);
    }

    private static void otherFaults() {
        CHECKS.refuses("a=1;b=99999999999;.", 2, 6);
        CHECKS.refuses("a=1; >99999999999", 2, 6);
        CHECKS.refuses("a=1;.".repeat(30), 3, 120);
        CHECKS.refuses("a=b;".repeat(100), 3, 320);
        CHECKS.refuses("a=1;a?1:2 >5", 4, 8);
        CHECKS.refuses("a=1;a?1:0 >5", 4, 11);
    }

    private static void faultsLeaveTheProgram() {
        String[] broken = {"", "b=2;c=?;x", "b=2;c=99999999999;.", "b=2;c=3;>4", ".".repeat(25),
            "b=1;".repeat(81) + "."};
        for (String text : broken) {
            Flow x = Checks.loaded("a=?;b=a+1;a?1:2 >2 c=5;.");
            String before = state(x);
            CHECKS.due("'" + text + "': read()", Checks.load(x, text), ConstantFlow.NONE);
            CHECKS.due("'" + text + "': the program", state(x), before);
            CHECKS.due("'" + text + "': run(9)", x.run(9), 5);
            CHECKS.due("'" + text + "': value(1)", x.value(1), 1);
        }
    }

    private static String state(Flow x) {
        StringBuilder text = new StringBuilder(Checks.tallies(x));
        for (int block = 0; block < x.told(0); block++) {
            text.append(" / ").append(Checks.facts(x, block, false));
            text.append(" / ").append(Checks.facts(x, block, true));
        }
        return text.append(" / ").append(Checks.anew(x)).toString();
    }
}
