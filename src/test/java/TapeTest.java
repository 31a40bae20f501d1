/** Promises 1 to 3: a new object, feed, wipe. */
public final class TapeTest {
    private static final Checks CHECKS = new Checks();

    public static void main(String[] args) {
        newObjectHasNothing();
        newObjectHasOneBlockWithAPoint();
        objectsAreApart();
        feedTakesTheLowestBytesFirst();
        feedTakesEveryByte();
        feedStopsAt700();
        feedRefusesOtherCounts();
        wipeEmptiesTheTapeAlone();
        CHECKS.finish();
    }

    private static void newObjectHasNothing() {
        ConstantFlow x = new ConstantFlow();
        CHECKS.due("new: written(0)", x.written(0), 0);
        CHECKS.due("new: fault()", x.fault(), 0);
        CHECKS.due("new: place()", x.place(), ConstantFlow.NONE);
        CHECKS.due("new: values", Checks.values(x), "0 0 0 0 0 0 0 0");
        CHECKS.due("new: asked()", x.asked(), 0);
        CHECKS.due("new: clear()", x.clear(), 0);
        CHECKS.due("new: input(5)", new ConstantFlow().input(5), 1);
        CHECKS.due("new: wipe()", x.wipe(), 0);
        CHECKS.due("new: take()", x.take(), 0);
        CHECKS.due("new: feed(1, '.')", x.feed(1, '.'), 1);
    }

    private static void newObjectHasOneBlockWithAPoint() {
        ConstantFlow x = new ConstantFlow();
        CHECKS.due("new: comes(0)", x.comes(0), true);
        CHECKS.due("new: beginning", Checks.facts(x, 0, false), "0 0 0 0 0 0 0 0");
        CHECKS.due("new: end", Checks.facts(x, 0, true), "0 0 0 0 0 0 0 0");
        CHECKS.due("new: told", Checks.tallies(x), "1 1 0 0 0 0 0");
        CHECKS.due("new: run(0)", x.run(0), ConstantFlow.NONE);
        CHECKS.due("new: run(1)", x.run(1), 1);
        CHECKS.due("new: run(20000)", x.run(20000), 1);
        CHECKS.due("new: written anew", Checks.anew(x), ".");
    }

    private static void objectsAreApart() {
        ConstantFlow x = Checks.loaded("a=?;.");
        x.input(7);
        x.run(2);
        x.write();
        ConstantFlow y = new ConstantFlow();
        CHECKS.due("apart: wipe()", y.wipe(), 0);
        CHECKS.due("apart: written(0)", y.written(0), 0);
        CHECKS.due("apart: told(2)", y.told(2), 0);
        CHECKS.due("apart: value(0)", y.value(0), 0);
        CHECKS.due("apart: clear()", y.clear(), 0);
        CHECKS.due("apart: the first one's value(0)", x.value(0), 7);
    }

    private static void feedTakesTheLowestBytesFirst() {
        String text = "a=5;a?0:";
        long eight = 0;
        for (int i = 0; i < 8; i++) {
            eight |= (long) text.charAt(i) << (8 * i);
        }
        ConstantFlow x = new ConstantFlow();
        CHECKS.due("feed 8", x.feed(8, eight), 8);
        CHECKS.due("feed 1", x.feed(1, '0'), 9);
        CHECKS.due("feed: read()", x.read(), 1);
        CHECKS.due("feed: number", x.number(0, 0, true), 5);
        for (int n = 1; n <= 8; n++) {
            ConstantFlow y = new ConstantFlow();
            // All bytes above the n lowest are x, which no program may have.
            long points = 0x7878787878787878L;
            for (int i = 0; i < n; i++) {
                points = points & ~(255L << (8 * i)) | (long) '.' << (8 * i);
            }
            CHECKS.due("feed(" + n + ", points)", y.feed(n, points), n);
            CHECKS.due(n + " points: read()", y.read(), n);
        }
    }

    private static void feedTakesEveryByte() {
        for (int added = 0; added < 256; added++) {
            ConstantFlow x = new ConstantFlow();
            CHECKS.due("feed(1, " + added + ")", x.feed(1, added), 1);
            x.feed(1, '.');
            // Bytes above 127 must not be taken for blanks, as signed ones would be.
            int blocks = added <= 32 ? 1 : added == '.' ? 2 : ConstantFlow.NONE;
            CHECKS.due("byte " + added + ", point: read()", x.read(), blocks);
        }
    }

    private static void feedStopsAt700() {
        ConstantFlow x = new ConstantFlow();
        x.feed(1, '.');
        for (int i = 1; i <= 86; i++) {
            CHECKS.due("feed 8 blanks", x.feed(8, 0x2020202020202020L), 1 + 8 * i);
        }
        CHECKS.due("feed 8 beyond 689", x.feed(8, 0x2020202020202020L), 697);
        CHECKS.due("feed 4 beyond 697", x.feed(4, 0x78787878L), ConstantFlow.NONE);
        CHECKS.due("full tape: read()", x.read(), 1);
        CHECKS.due("feed 3 beyond 697", x.feed(3, 0x2e2020L), 700);
        CHECKS.due("feed 1 beyond 700", x.feed(1, 'x'), ConstantFlow.NONE);
        CHECKS.due("700 bytes: read()", x.read(), 2);
        CHECKS.due("700 bytes: wipe()", x.wipe(), 700);
        CHECKS.due("feed behind wipe()", x.feed(2, 0x2e2eL), 2);
    }

    private static void feedRefusesOtherCounts() {
        ConstantFlow x = new ConstantFlow();
        int[] others = {0, 9, -1, 16, 257, Integer.MIN_VALUE, Integer.MAX_VALUE};
        for (int n : others) {
            CHECKS.throwsDue("feed(" + n + ")", IllegalArgumentException.class,
                    () -> x.feed(n, '.'));
        }
        CHECKS.due("wipe() behind refused feeds", x.wipe(), 0);
        Checks.feed(x, ".".repeat(700));
        for (int n : others) {
            CHECKS.throwsDue("full: feed(" + n + ")", IllegalArgumentException.class,
                    () -> x.feed(n, '.'));
        }
        CHECKS.due("full: wipe()", x.wipe(), 700);
    }

    private static void wipeEmptiesTheTapeAlone() {
        ConstantFlow x = Checks.loaded("a=?;b=a;.");
        x.input(3);
        x.run(9);
        String written = Checks.anew(x);
        CHECKS.due("wipe()", x.wipe(), 9);
        CHECKS.due("wipe() again", x.wipe(), 0);
        CHECKS.due("wiped: told(2)", x.told(2), 2);
        CHECKS.due("wiped: written", Checks.lastWritten(x, 9), written);
        CHECKS.due("wiped: value(1)", x.value(1), 3);
        CHECKS.due("wiped: clear()", x.clear(), 1);
        CHECKS.due("wiped: read()", x.read(), ConstantFlow.NONE);
        CHECKS.due("wiped: place()", x.place(), 0);
        Checks.feed(x, "b=1;");
        x.wipe();
        Checks.feed(x, ".");
        CHECKS.due("fed behind wipe(): read()", x.read(), 1);
        CHECKS.due("fed behind wipe(): told(2)", x.told(2), 0);
    }
}
