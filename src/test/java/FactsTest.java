/** Promises 7 to 10, in ordinary cases: comes, known, number, told. */
public final class FactsTest {
    private static final Checks CHECKS = new Checks();
    private static final String ZEROS = "0 0 0 0 0 0 0 0";

    public static void main(String[] args) {
        numbersMakeNumbers();
        anyMakesAny();
        zeroStandsAgainstAny();
        branchesOnNumbers();
        branchesOnAny();
        joins();
        loops();
        factsAreTheLeast();
        longChains();
        tells();
        readingForgets();
        CHECKS.finish();
    }

    private static void makes(String value, int number) {
        CHECKS.end("a=" + value + ";.", 0, number + " 0 0 0 0 0 0 0");
    }

    private static void numbersMakeNumbers() {
        makes("7", 7);
        makes("-0", 0);
        makes("007", 7);
        makes("a", 0);
        makes("2147483647+1", Integer.MIN_VALUE);
        makes("-2147483648-1", Integer.MAX_VALUE);
        makes("65536*65536", 0);
        makes("65537*65537", 131073);
        makes("-2147483648*-1", Integer.MIN_VALUE);
        makes("7/2", 3);
        makes("-7/2", -3);
        makes("7/-2", -3);
        makes("7/0", 0);
        makes("-2147483648/-1", Integer.MIN_VALUE);
        makes("7%2", 1);
        makes("-7%2", -1);
        makes("7%-2", 1);
        makes("7%0", 0);
        makes("-2147483648%-1", 0);
        makes("12&10", 8);
        makes("12|10", 14);
        makes("12^10", 6);
        makes("-1&-2147483648", Integer.MIN_VALUE);
        makes("1<2", 1);
        makes("2<2", 0);
        makes("3<2", 0);
        makes("-2147483648<2147483647", 1);
        makes("2147483647<-2147483648", 0);
        makes("2=2", 1);
        makes("2=3", 0);
        makes("0=a", 1);
        CHECKS.end("a=3;b=a*a;a=b-a;c=a=6;.", 0, "6 9 1 0 0 0 0 0");
        CHECKS.beginning("a=3;b=a*a;.", 0, ZEROS);
    }

    private static void anyMakesAny() {
        CHECKS.end("a=?;b=a;c=a+0;d=0-a;e=a-a;f=a/0;g=a%1;h=a=a;.", 0, "? ? ? ? ? ? ? ?");
        CHECKS.end("a=?;b=a|-1;c=a^a;d=a<a;e=0/a;f=0%a;g=a<-2147483648;.", 0, "? ? ? ? ? ? ? 0");
        CHECKS.end("a=?;b=a*1;c=1*a;d=a&1;e=-1&a;f=a*a;g=a&a;.", 0, "? ? ? ? ? ? ? 0");
        CHECKS.end("a=?;a=5;.", 0, "5 0 0 0 0 0 0 0");
        CHECKS.end("a=5;a=?;.", 0, "? 0 0 0 0 0 0 0");
    }

    private static void zeroStandsAgainstAny() {
        CHECKS.end("a=?;b=a*0;c=0*a;d=a&0;e=0&a;f=a*h;g=h&a;.", 0, "? 0 0 0 0 0 0 0");
        CHECKS.end("a=?;a=a*0;b=a+1;.", 0, "0 1 0 0 0 0 0 0");
        CHECKS.end("a=?;b=0|a;c=0^a;d=a+0;e=a/0;.", 0, "? ? ? ? ? 0 0 0");
    }

    private static void branchesOnNumbers() {
        CHECKS.comes("1?1:2..", "yyn");
        CHECKS.comes("0?1:2..", "yny");
        CHECKS.comes("-1?1:2..", "yyn");
        CHECKS.comes("a?1:2..", "yny");
        CHECKS.comes("a=5;a?1:2..", "yyn");
        CHECKS.comes("a=?;a=a*0;a?1:2..", "yny");
        CHECKS.comes("a=?;b=7;b?1:2..", "yyn");
        CHECKS.comes(">2.>1", "yyy");
        CHECKS.comes("..", "yn");
    }

    private static void branchesOnAny() {
        CHECKS.comes("a=?;a?1:2..", "yyy");
        CHECKS.comes("a=?;a?1:1..", "yyn");
        CHECKS.comes("a=?;a?2:0..", "yny");
        CHECKS.end("a=?;a?1:2 b=1;>3 b=1;>3 .", 3, "? 1 0 0 0 0 0 0");
    }

    private static void joins() {
        CHECKS.beginning("a=?;a?1:2 b=1;c=2;>3 b=1;c=3;>3 .", 3, "? 1 ? 0 0 0 0 0");
        CHECKS.beginning("a=?;a?1:2 b=0;>3 c=?;>3 .", 3, "? 0 ? 0 0 0 0 0");
        CHECKS.beginning("a=?;a?1:2 a=4;>3 a=4;>3 .", 3, "4 0 0 0 0 0 0 0");
        // From a block that is not come to nothing comes.
        CHECKS.beginning(">2 a=1;>2 .", 2, ZEROS);
        // Of an end that goes one way nothing comes to the other.
        CHECKS.beginning("a=1;a?1:2 b=1;>2 .", 2, "1 1 0 0 0 0 0 0");
    }

    private static void loops() {
        // What comes back to block 0 is joined with the zeros.
        CHECKS.beginning("a=?;b=1;a?0:1 .", 0, "? ? 0 0 0 0 0 0");
        CHECKS.beginning("a=?;b=0;a?0:1 .", 0, "? 0 0 0 0 0 0 0");
        CHECKS.end("a=a+1;b=a<9;b?0:1 .", 0, "? ? 0 0 0 0 0 0");
        CHECKS.beginning("a=1;>1 b=a;a=b*1;b?1:2 .", 1, "1 ? 0 0 0 0 0 0");
        CHECKS.end("a=1;>1 b=a;a=b*1;b?1:2 .", 1, "1 1 0 0 0 0 0 0");
        CHECKS.end(">1 a=a+1;c=?;c?1:2 d=a;.", 2, "? 0 ? ? 0 0 0 0");
    }

    private static void factsAreTheLeast() {
        // Facts that start from ANY would let block 3 be come to, and a be ANY in block 1.
        CHECKS.comes("a=1;>1 b=a+0;a?2:3 a=b;>1 a=0;>1", "yyyn");
        CHECKS.beginning("a=1;>1 b=a+0;a?2:3 a=b;>1 a=0;>1", 1, "1 ? 0 0 0 0 0 0");
        CHECKS.end("a=1;>1 b=a+0;a?2:3 a=b;>1 a=0;>1", 1, "1 1 0 0 0 0 0 0");
        // A fact found early (c is 0 at block 1) falls when block 2 is found to come there.
        CHECKS.end(">1 d=?;b=c;d?2:3 c=c+1;>1 .", 3, "0 ? ? ? 0 0 0 0");
    }

    private static void longChains() {
        // From block 23 down to block 1, so that each is come to a round later than the one above.
        StringBuilder down = new StringBuilder("a=?;>23 .");
        for (int block = 2; block < 24; block++) {
            down.append("b=b+1;>").append(block - 1).append(' ');
        }
        Flow x = Checks.loaded(down.toString());
        CHECKS.due("down: told(1)", x.told(1), 24);
        CHECKS.due("down: end of 1", Checks.facts(x, 1, true), "? 22 0 0 0 0 0 0");
        // From a on each variable becomes ANY one turn of the loop later than the one before it.
        Flow y = Checks.loaded(">2 . h=g;g=f;f=e;e=d;d=c;c=b;b=a;a=?;a?2:1");
        CHECKS.due("ripple: beginning", Checks.facts(y, 2, false), "? ? ? ? ? ? ? ?");
        CHECKS.due("ripple: block 1", Checks.facts(y, 1, true), "? ? ? ? ? ? ? ?");
        slowestChain();
    }

    /** As y above, but each turn of the loop goes down through 22 blocks. */
    private static void slowestChain() {
        StringBuilder text = new StringBuilder(">23 .h=g;g=f;f=e;e=d;d=c;c=b;b=a;a=?;a?23:1 ");
        for (int block = 3; block < 24; block++) {
            text.append('>').append(block - 1).append(' ');
        }
        Flow x = Checks.loaded(text.toString());
        for (int block = 1; block < 24; block++) {
            CHECKS.due("slowest: beginning of " + block, Checks.facts(x, block, false),
                    "? ? ? ? ? ? ? ?");
        }
    }

    private static void tells() {
        CHECKS.tells(".", "1 1 0 0 0 0 0");
        CHECKS.tells("a=?;b=1;c=a;d=a*0;a?1:2 e=5;0?0:2 >3 f=1;. g=1;a?0:0", "5 4 7 6 4 2 1");
        CHECKS.tells("5?1:1 . a=1;b=?;a?0:1", "3 2 2 0 0 1 1");
        CHECKS.tells("a=?;a?1:2 . .", "3 3 1 1 0 1 0");
        CHECKS.tells("a=a+1;b=a<3;b?0:1 .", "2 2 2 2 0 1 0");
        CHECKS.tells("a=1;a=2;a=a+a;.", "1 1 3 3 3 0 0");
    }

    private static void readingForgets() {
        Flow x = Checks.loaded("a=?;b=?;c=5;a?1:2 >0 >1");
        Checks.load(x, "b=b+1;b?2:1 . .");
        CHECKS.due("read anew: told", Checks.tallies(x), "3 2 1 1 1 1 1");
        CHECKS.due("read anew: comes(1)", x.comes(1), false);
        CHECKS.due("read anew: beginning", Checks.facts(x, 0, false), ZEROS);
        CHECKS.due("read anew: end", Checks.facts(x, 2, true), "0 1 0 0 0 0 0 0");
        Checks.load(x, "a=1+2;b=3;b?1:0 .");
        Checks.load(x, ".");
        Checks.load(x, "a=?;b=a;.");
        CHECKS.due("? where an operator was", Checks.facts(x, 0, true), "? ? 0 0 0 0 0 0");
        Checks.load(x, ".");
        CHECKS.due("one block: told", Checks.tallies(x), "1 1 0 0 0 0 0");
        CHECKS.throwsDue("one block: comes(1)", IndexOutOfBoundsException.class, () -> x.comes(1));
    }
}
