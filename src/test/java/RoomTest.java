import com.sun.management.ThreadMXBean;
import java.lang.management.ManagementFactory;

/** All calls of a run live in one room: a new object is small, and no call makes more. */
public final class RoomTest {
    private static final ThreadMXBean BEAN =
            (ThreadMXBean) ManagementFactory.getThreadMXBean();
    // What the measuring itself and the virtual machine may need.
    private static final long SLACK = 20000;

    public static void main(String[] args) {
        Checks checks = new Checks();
        String text = "a=?;" + "b=a+c;".repeat(79) + "a?1:0 b?2:0 c?3:1 .";
        long[] packed = pack(text);
        // Once before, so that all classes are there when it counts.
        calls(new ConstantFlow(), packed);
        long start = BEAN.getCurrentThreadAllocatedBytes();
        ConstantFlow x = new ConstantFlow();
        long made = BEAN.getCurrentThreadAllocatedBytes();
        calls(x, packed);
        long done = BEAN.getCurrentThreadAllocatedBytes();
        checks.due("the test has a whole program", x.told(2), 80);
        checks.due("a new object takes " + (made - start) + " bytes: few enough",
                made - start < 40000 + SLACK, true);
        checks.due("the calls take " + (done - made) + " bytes: few enough",
                done - made < SLACK, true);
        checks.finish();
    }

    private static long[] pack(String text) {
        long[] packed = new long[(text.length() + 7) / 8];
        for (int i = 0; i < packed.length * 8; i++) {
            char c = i < text.length() ? text.charAt(i) : ' ';
            packed[i / 8] |= (long) c << (8 * (i % 8));
        }
        return packed;
    }

    private static void calls(ConstantFlow x, long[] packed) {
        for (long eight : packed) {
            x.feed(8, eight);
        }
        for (int i = 0; i < 40; i++) {
            x.read();
            x.known(1, 2, true);
            x.number(0, 7, false);
            x.told(i % 7);
            x.write();
            x.written(i);
            x.input(i);
            x.run(20000);
            x.value(1);
        }
        x.take();
        x.clear();
    }
}
