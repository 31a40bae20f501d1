/** Promises 11 to 13: write, written, take. */
public final class WriteTest {
    private static final Checks CHECKS = new Checks();

    public static void main(String[] args) {
        writesStatements();
        writesEnds();
        numbersBlocksAnew();
        writesNumbersShort();
        writtenGivesEightBytes();
        writtenKeepsTheLast();
        takeMakesItTheTape();
        takeRefusesLongOnes();
        writingTwiceChangesNothing();
        CHECKS.finish();
    }

    private static void writes(String text, String anew) {
        ConstantFlow x = Checks.loaded(text);
        CHECKS.due("'" + text + "': write()", x.write(), anew.length());
        CHECKS.due("'" + text + "': anew", Checks.anew(x), anew);
    }

    private static void writesStatements() {
        writes(".", ".");
        writes("a=3;b=a+4;c=b;.", "a=3;b=7;c=7;.");
        writes("a=?;.", "a=?;.");
        writes("a = ? ;\n b = a ; .", "a=?;b=a;.");
        writes("a=?;b=3;c=a+b;d=b-a;.", "a=?;b=3;c=a+3;d=3-a;.");
        writes("a=?;b=-3;c=a-b;d=b-a;e=a--3;.", "a=?;b=-3;c=a--3;d=-3-a;e=a--3;.");
        writes("a=?;b=a*0;c=a&b;d=a/b;e=a%0;.", "a=?;b=0;c=0;d=a/0;e=a%0;.");
        writes("a=?;b=a+a;c=a-a;d=a=a;e=a<b;.", "a=?;b=a+a;c=a-a;d=a=a;e=a<b;.");
        writes("a=?;b=a|a;b=a^a;b=a&a;b=a*a;b=a%a;b=a/a;.",
                "a=?;b=a|a;b=a^a;b=a&a;b=a*a;b=a%a;b=a/a;.");
        // The facts before the statement count, not those behind it.
        writes("a=?;b=2;b=a+b;b=a+b;.", "a=?;b=2;b=a+2;b=a+b;.");
        writes("a=?;a=a+h;a=7;a=a+1;.", "a=?;a=a+0;a=7;a=8;.");
    }

    private static void writesEnds() {
        writes(">0", ">0");
        writes("1?0:0", ">0");
        writes("0?0:1.", ">1.");
        writes("a=?;a?0:1.", "a=?;a?0:1.");
        writes("a=?;a?1:1.", "a=?;a?1:1.");
        writes("a=?;b=2;b?0:1.", "a=?;b=2;>0");
        writes("a=?;a?1:2 >2 b?0:2", "a=?;a?1:2>2>2");
        writes("a=1;a?1:2 b=?;>2 b?0:2", "a=1;>1b=?;>2b?0:2");
    }

    private static void numbersBlocksAnew() {
        writes(">2..", ">1.");
        writes(">2 . >4 . >2", ">1>2>1");
        // Each block is written by the facts at its own beginning.
        writes(">2 c=a+b;. a=5;b=?;>1", ">2c=5+b;.a=5;b=?;>1");
        writes("a=?;a?3:5 . . >5 . .", "a=?;a?1:2>2.");
        writes("a=1;a?1:2 c=2;>3 c=?;. d=c;.", "a=1;>1c=2;>2d=2;.");
        StringBuilder all = new StringBuilder("a=?;");
        StringBuilder anew = new StringBuilder("a=?;");
        for (int block = 0; block < 23; block++) {
            all.append("a?").append(block + 1).append(":0 ");
            anew.append("a?").append(block + 1).append(":0");
        }
        writes(all + ".", anew + ".");
        writes(">23" + ".".repeat(22) + ">23", ">1>1");
    }

    private static void writesNumbersShort() {
        int[] numbers = {0, 1, 9, 10, 11, 99, 100, 101, 1000, 1000000, 99999999, 999999999,
            1000000000, 1000000001, 2147483646, 2147483647};
        for (int number : numbers) {
            writes("a=000" + number + ";.", "a=" + number + ";.");
            writes("a=-0" + number + ";.", "a=" + -number + ";.");
            writes("a=?;b=a/-00" + number + ";.", "a=?;b=a/" + -number + ";.");
        }
        writes("a=-2147483648;b=a-1;.", "a=-2147483648;b=2147483647;.");
        writes("a=?;b=a+-2147483648;.", "a=?;b=a+-2147483648;.");
        writes(">0001.", ">1.");
    }

    private static void writtenGivesEightBytes() {
        ConstantFlow x = Checks.loaded("a=?;b=a+12;.");
        String text = "a=?;b=a+12;.";
        CHECKS.due("write()", x.write(), 12);
        for (int i = -20; i < 40; i++) {
            CHECKS.due("written(" + i + ")", x.written(i), eight(text, i));
        }
        int[] far = {Integer.MIN_VALUE, Integer.MIN_VALUE + 1, Integer.MAX_VALUE,
            Integer.MAX_VALUE - 3, Integer.MAX_VALUE - 7, -8, 12, 700, 2047, 2048, 65536};
        for (int i : far) {
            CHECKS.due("written(" + i + ")", x.written(i), 0);
        }
    }

    private static long eight(String text, int from) {
        long packed = 0;
        for (int k = 7; k >= 0; k--) {
            int i = from + k;
            packed = packed << 8 | (i >= 0 && i < text.length() ? text.charAt(i) : 0);
        }
        return packed;
    }

    private static void writtenKeepsTheLast() {
        ConstantFlow x = Checks.loaded("a=1;b=2;c=3;.");
        CHECKS.due("before write(): written(0)", x.written(0), 0);
        x.write();
        Checks.load(x, ".");
        CHECKS.due("read anew: written(0)", x.written(0), eight("a=1;b=2;c=3;.", 0));
        Checks.load(x, "x");
        x.run(5);
        CHECKS.due("a fault: written(8)", x.written(8), eight("a=1;b=2;c=3;.", 8));
        CHECKS.due("write() of the shorter one", x.write(), 1);
        CHECKS.due("shorter: written(0)", x.written(0), '.');
        CHECKS.due("shorter: written(8)", x.written(8), 0);
    }

    private static void takeMakesItTheTape() {
        ConstantFlow x = new ConstantFlow();
        Checks.feed(x, "a=1;.");
        CHECKS.due("nothing written: take()", x.take(), 0);
        CHECKS.due("nothing written: read()", x.read(), ConstantFlow.NONE);
        CHECKS.due("nothing written: place()", x.place(), 0);
        Checks.load(x, "a=3;b=a*a;a?1:0 . .");
        CHECKS.due("write()", x.write(), 11);
        CHECKS.due("take()", x.take(), 11);
        CHECKS.due("taken, but not read: told(0)", x.told(0), 3);
        CHECKS.due("take() again", x.take(), 11);
        CHECKS.due("taken: read()", x.read(), 2);
        CHECKS.due("taken: anew", Checks.anew(x), "a=3;b=9;>1.");
        CHECKS.due("taken: feed", x.feed(1, '.'), 12);
        CHECKS.due("taken and fed: read()", x.read(), 3);
        CHECKS.due("feeding leaves what was written", Checks.lastWritten(x, 12),
                "a=3;b=9;>1.\u0000");
        CHECKS.due("taken: wipe()", x.wipe(), 12);
        CHECKS.due("wiped: take()", x.take(), 11);
    }

    private static void takeRefusesLongOnes() {
        // Each b=a; is written with ten bytes more than it has here.
        String most = "a=-2147483648;" + "b=a;".repeat(48) + "c=1234;" + "c=12;" + ".";
        ConstantFlow x = Checks.loaded(most);
        int length = x.write();
        CHECKS.due("699 bytes: write()", length, 14 + 48 * 14 + 7 + 5 + 1);
        CHECKS.due("699 bytes: take()", x.take(), 699);
        Checks.load(x, most.replace("c=12;", "c=123;"));
        CHECKS.due("700 bytes: write()", x.write(), 700);
        CHECKS.due("700 bytes: take()", x.take(), 700);
        CHECKS.due("700 bytes: read()", x.read(), 1);
        Checks.load(x, most.replace("c=12;", "c=1234;"));
        CHECKS.due("701 bytes: write()", x.write(), 701);
        CHECKS.due("701 bytes: take()", x.take(), ConstantFlow.NONE);
        CHECKS.due("701 bytes: the tape stays", x.wipe(), most.length() + 2);
        longestText();
    }

    private static void longestText() {
        StringBuilder text = new StringBuilder("a=?;b=1<31;b=-2147483648;");
        StringBuilder anew = new StringBuilder("a=?;b=1;b=-2147483648;");
        for (int i = 3; i < 80; i++) {
            text.append("a=a+b;");
            anew.append("a=a+-2147483648;");
        }
        for (int i = 0; i < 23; i++) {
            text.append("a?23:").append(i + 1).append(' ');
            anew.append("a?23:").append(i + 1);
        }
        ConstantFlow x = Checks.loaded(text + ".");
        CHECKS.due("the longest: write()", x.write(), anew.length() + 1);
        CHECKS.due("the longest: anew", Checks.anew(x), anew + ".");
        int tape = x.wipe();
        Checks.feed(x, ".");
        CHECKS.due("the longest: take()", x.take(), ConstantFlow.NONE);
        CHECKS.due("the longest: read()", x.read(), 1);
        CHECKS.due("the longest: the tape was", tape, text.length() + 1);
    }

    private static void writingTwiceChangesNothing() {
        ConstantFlow x = Checks.loaded("a=?;b=2;c=a*b;c?1:3 d=b+1;d?2:3 e=d-c;>0 . f=9;.");
        String once = Checks.anew(x);
        CHECKS.due("once", once, "a=?;b=2;c=a*2;c?1:3d=3;>2e=3-c;>0.");
        CHECKS.due("twice", Checks.anew(x), once);
        CHECKS.due("writing leaves the program", Checks.tallies(x), "5 4 6 5 2 2 1");
        x.take();
        x.read();
        CHECKS.due("of what was taken", Checks.anew(x), once);
    }
}
