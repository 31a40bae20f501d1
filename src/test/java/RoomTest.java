import com.sun.management.ThreadMXBean;
import java.lang.management.ManagementFactory;

/** All calls of a run live in one room: an object's dearest calls leave it half empty. */
public final class RoomTest {
    // 7.3 million fields and elements, of four bytes each.
    private static final long ROOM = 7300000L * 4;
    private static final ThreadMXBean BEAN =
            (ThreadMXBean) ManagementFactory.getThreadMXBean();

    interface Call {
        void make(ConstantFlow x);
    }

    public static void main(String[] args) {
        Checks checks = new Checks();
        // Each turn of the long loop makes one more variable ANY.
        StringBuilder text = new StringBuilder(">23 .h=g;g=f;f=e;e=d;d=c;c=b;b=a;a=?;a?23:1 ");
        for (int block = 3; block < 24; block++) {
            text.append("b=a+c;c=b+a;>").append(block - 1).append(' ');
        }
        check(checks, "read()", text.toString(), x -> x.read());
        check(checks, "read() with a fault", text + "x", x -> x.read());
        check(checks, "number()", text.toString(), x -> x.number(0, 2, true));
        check(checks, "write()", text.toString(), x -> x.write());
        check(checks, "written()", text.toString(), x -> x.written(100));
        check(checks, "run(20000)", text.toString(), x -> x.run(20000));
        checks.finish();
    }

    private static void check(Checks checks, String name, String text, Call call) {
        // Once before, so that all classes are there when it counts.
        taken(text, call);
        long bytes = taken(text, call);
        checks.due(name + ", 400 times: " + bytes + " bytes, few enough", bytes < ROOM / 2, true);
    }

    private static long taken(String text, Call call) {
        long start = BEAN.getCurrentThreadAllocatedBytes();
        ConstantFlow x = new ConstantFlow();
        for (int i = 0; i < text.length(); i += 8) {
            x.feed(Math.min(8, text.length() - i), Checks.eight(text, i));
        }
        x.read();
        for (int i = 0; i < 400; i++) {
            call.make(x);
        }
        return BEAN.getCurrentThreadAllocatedBytes() - start;
    }
}
