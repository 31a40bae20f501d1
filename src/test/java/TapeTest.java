/** Promises 1 to 3, in ordinary cases: a new object, feed, wipe. */
public final class TapeTest {
    private static final Checks CHECKS = new Checks();

    public static void main(String[] args) {
        objectsAreApart();
        feedTakesTheLowestBytesFirst();
        feedTakesEveryByte();
        wipeEmptiesTheTapeAlone();
        CHECKS.finish();
    }

    private static void objectsAreApart() {
        Flow x = Checks.loaded("a=?;.");
        x.input(7);
        x.run(2);
        x.write();
        Flow y = new Flow();
        CHECKS.due("apart: wipe()", y.wipe(), 0);
        CHECKS.due("apart: written(0)", y.written(0), 0);
        CHECKS.due("apart: told(2)", y.told(2), 0);
        CHECKS.due("apart: value(0)", y.value(0), 0);
        CHECKS.due("apart: clear()", y.clear(), 0);
        CHECKS.due("apart: the first one's value(0)", x.value(0), 7);
    }

    private static void feedTakesTheLowestBytesFirst() {
        String text = "a=5;a?0:";
        long eight = 0;
        for (int i = 0; i < 8; i++) {
            eight |= (long) text.charAt(i) << (8 * i);
        }
        Flow x = new Flow();
        CHECKS.due("feed 8", x.feed(8, eight), 8);
        CHECKS.due("feed 1", x.feed(1, '0'), 9);
        CHECKS.due("feed: read()", x.read(), 1);
        CHECKS.due("feed: number", x.number(0, 0, true), 5);
        for (int n = 1; n <= 8; n++) {
            Flow y = new Flow();
            // All bytes above the n lowest are x, which no program may have.
            long points = 0x7878787878787878L;
            for (int i = 0; i < n; i++) {
                points = points & ~(255L << (8 * i)) | (long) '.' << (8 * i);
            }
            CHECKS.due("feed(" + n + ", points)", y.feed(n, points), n);
            CHECKS.due(n + " points: read()", y.read(), n);
        }
    }

    private static void feedTakesEveryByte() {
        for (int added = 0; added < 256; added++) {
            Flow x = new Flow();
            CHECKS.due("feed(1, " + added + ")", x.feed(1, added), 1);
            x.feed(1, '.');
            // Bytes above 127 must not be taken for blanks, as signed ones would be.
            int blocks = added <= 32 ? 1 : added == '.' ? 2 : ConstantFlow.NONE;
            CHECKS.due("byte " + added + ", point: read()", x.read(), blocks);
        }
    }

    private static void wipeEmptiesTheTapeAlone() {
        Flow x = Checks.loaded("a=?;b=a;.");
        x.input(3);
        x.run(9);
        String written = Checks.anew(x);
        CHECKS.due("wipe()", x.wipe(), 9);
        CHECKS.due("wipe() again", x.wipe(), 0);
        CHECKS.due("wiped: told(2)", x.told(2), 2);
        CHECKS.due("wiped: written", Checks.lastWritten(x, 9), written);
        CHECKS.due("wiped: value(1)", x.value(1), 3);
        CHECKS.due("wiped: clear()", x.clear(), 1);
        CHECKS.due("wiped: read()", x.read(), ConstantFlow.NONE);
        CHECKS.due("wiped: place()", x.place(), 0);
        Checks.feed(x, "b=1;");
        x.wipe();
        Checks.feed(x, ".");
        CHECKS.due("fed behind wipe(): read()", x.read(), 1);
        CHECKS.due("fed behind wipe(): told(2)", x.told(2), 0);
    }
}
