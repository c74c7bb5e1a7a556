import com.sun.management.ThreadMXBean;
import java.lang.management.ManagementFactory;

/** All calls of a run live in one room: an object is small, and its calls make no others. */
public final class RoomTest {
    private static final ThreadMXBean THREADS = (ThreadMXBean) ManagementFactory.getThreadMXBean();

    public static void main(String[] args) {
        Check check = new Check();
        dearestCalls();
        long start = bytes();
        BigRunner runner = new BigRunner();
        long made = bytes() - start;
        check.due("an object of " + made + " bytes is small", made < 64 * 1024, true);
        start = bytes();
        dearestCallsOn(runner);
        long more = bytes() - start;
        check.due("its calls made " + more + " bytes", more < 1024, true);
        check.end("RoomTest");
    }

    private static long bytes() {
        return THREADS.getCurrentThreadAllocatedBytes();
    }

    private static void dearestCalls() {
        dearestCallsOn(new BigRunner());
    }

    private static void dearestCallsOn(BigRunner runner) {
        String text = "?a;a=a+7;[1:b=b*a+a;c=b%(a*a*a+7);d=d+b/c;{b/a/a/a/a/a/a/a:b=7|!b}]";
        for (int turn = 0; turn < 4; turn++) {
            for (int i = 0; i < text.length(); i++) {
                runner.type(text.charAt(i));
            }
            runner.load();
            runner.give(123456789);
            for (int i = 0; i < 15; i++) {
                runner.run(200);
                runner.variable(1, -2);
                runner.bound(9, true);
            }
        }
    }
}
