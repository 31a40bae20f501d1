/** Promises 11 to 13, in ordinary cases: write, written, take. */
public final class WriteTest {
    private static final Checks CHECKS = new Checks();

    public static void main(String[] args) {
        writesStatements();
        writesEnds();
        numbersBlocksAnew();
        takeMakesItTheTape();
        writingTwiceChangesNothing();
        CHECKS.finish();
    }

    private static void writesStatements() {
        CHECKS.writes(".", ".");
        CHECKS.writes("a=3;b=a+4;c=b;.", "a=3;b=7;c=7;.");
        CHECKS.writes("a=?;.", "a=?;.");
        CHECKS.writes("a = ? ;\n b = a ; .", "a=?;b=a;.");
        CHECKS.writes("a=?;b=3;c=a+b;d=b-a;.", "a=?;b=3;c=a+3;d=3-a;.");
        CHECKS.writes("a=?;b=-3;c=a-b;d=b-a;e=a--3;.", "a=?;b=-3;c=a--3;d=-3-a;e=a--3;.");
        CHECKS.writes("a=?;b=a*0;c=a&b;d=a/b;e=a%0;.", "a=?;b=0;c=0;d=a/0;e=a%0;.");
        CHECKS.writes("a=?;b=a+a;c=a-a;d=a=a;e=a<b;.", "a=?;b=a+a;c=a-a;d=a=a;e=a<b;.");
        CHECKS.writes("a=?;b=a|a;b=a^a;b=a&a;b=a*a;b=a%a;b=a/a;.",
                "a=?;b=a|a;b=a^a;b=a&a;b=a*a;b=a%a;b=a/a;.");
        // The facts before the statement count, not those behind it.
        CHECKS.writes("a=?;b=2;b=a+b;b=a+b;.", "a=?;b=2;b=a+2;b=a+b;.");
        CHECKS.writes("a=?;a=a+h;a=7;a=a+1;.", "a=?;a=a+0;a=7;a=8;.");
    }

    private static void writesEnds() {
        CHECKS.writes(">0", ">0");
        CHECKS.writes("1?0:0", ">0");
        CHECKS.writes("0?0:1.", ">1.");
        CHECKS.writes("a=?;a?0:1.", "a=?;a?0:1.");
        CHECKS.writes("a=?;a?1:1.", "a=?;a?1:1.");
        CHECKS.writes("a=?;b=2;b?0:1.", "a=?;b=2;>0");
        CHECKS.writes("a=?;a?1:2 >2 b?0:2", "a=?;a?1:2>2>2");
        CHECKS.writes("a=1;a?1:2 b=?;>2 b?0:2", "a=1;>1b=?;>2b?0:2");
    }

    private static void numbersBlocksAnew() {
        CHECKS.writes(">2..", ">1.");
        CHECKS.writes(">2 . >4 . >2", ">1>2>1");
        // Each block is written by the facts at its own beginning.
        CHECKS.writes(">2 c=a+b;. a=5;b=?;>1", ">2c=5+b;.a=5;b=?;>1");
        CHECKS.writes("a=?;a?3:5 . . >5 . .", "a=?;a?1:2>2.");
        CHECKS.writes("a=1;a?1:2 c=2;>3 c=?;. d=c;.", "a=1;>1c=2;>2d=2;.");
        StringBuilder all = new StringBuilder("a=?;");
        StringBuilder anew = new StringBuilder("a=?;");
        for (int block = 0; block < 23; block++) {
            all.append("a?").append(block + 1).append(":0 ");
            anew.append("a?").append(block + 1).append(":0");
        }
        CHECKS.writes(all + ".", anew + ".");
        CHECKS.writes(">23" + ".".repeat(22) + ">23", ">1>1");
    }

    private static void takeMakesItTheTape() {
        Flow x = Checks.loaded("a=3;b=a*a;a?1:0 . .");
        CHECKS.due("write()", x.write(), 11);
        CHECKS.due("take()", x.take(), 11);
        CHECKS.due("taken, but not read: told(0)", x.told(0), 3);
        CHECKS.due("take() again", x.take(), 11);
        CHECKS.due("taken: read()", x.read(), 2);
        CHECKS.due("taken: anew", Checks.anew(x), "a=3;b=9;>1.");
        CHECKS.due("taken: feed", x.feed(1, '.'), 12);
        CHECKS.due("taken and fed: read()", x.read(), 3);
        CHECKS.due("feeding leaves what was written", Checks.lastWritten(x, 12),
                "a=3;b=9;>1.\u0000");
        CHECKS.due("taken: wipe()", x.wipe(), 12);
        CHECKS.due("wiped: take()", x.take(), 11);
    }

    private static void writingTwiceChangesNothing() {
        Flow x = Checks.loaded("a=?;b=2;c=a*b;c?1:3 d=b+1;d?2:3 e=d-c;>0 . f=9;.");
        String once = Checks.anew(x);
        CHECKS.due("once", once, "a=?;b=2;c=a*2;c?1:3d=3;>2e=3-c;>0.");
        CHECKS.due("twice", Checks.anew(x), once);
        CHECKS.due("writing leaves the program", Checks.tallies(x), "5 4 6 5 2 2 1");
        x.take();
        x.read();
        CHECKS.due("of what was taken", Checks.anew(x), once);
    }
}
