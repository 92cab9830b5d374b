import com.sun.management.ThreadMXBean;
import java.lang.management.ManagementFactory;

/** All calls of a run share one room of 7.3 million fields and elements: runs take little of it. */
public final class RoomTest {
    private static final Checks CHECKS = new Checks();
    private static final long BYTES_OF_ROOM = 4L * 7_300_000;

    public static void main(String[] args) {
        takesAtMost("a new object", BYTES_OF_ROOM / 1000, () -> new ImageGcds(3).count());
        takesAtMost("products of many terms", BYTES_OF_ROOM / 4, RoomTest::wideRun);
        takesAtMost("sums of many terms", BYTES_OF_ROOM / 4, RoomTest::sumRun);
        takesAtMost("the dearest calls", BYTES_OF_ROOM / 10, RoomTest::dearRun);
        takesAtMost("parts of many terms", BYTES_OF_ROOM / 10, RoomTest::partRun);
        takesAtMost("calls that make none", BYTES_OF_ROOM / 20, RoomTest::vainRun);
        CHECKS.end("RoomTest");
    }

    private static void takesAtMost(String what, long bytes, Checks.Call run) {
        run.answer();
        ThreadMXBean bean = (ThreadMXBean) ManagementFactory.getThreadMXBean();
        long thread = Thread.currentThread().getId();
        long before = bean.getThreadAllocatedBytes(thread);
        run.answer();
        long taken = bean.getThreadAllocatedBytes(thread) - before;
        CHECKS.same(what + " took " + taken + " bytes, within " + bytes, true, taken <= bytes);
    }

    /** A polynomial with a term at every power. */
    private static int wide(ImageGcds g) {
        int a = Checks.make(g, "x+2*y+3*z+5+x*y+x*z+y*z+x*y*z");
        int square = g.times(a, a);
        int fourth = g.times(square, square);
        int seventh = g.times(fourth, g.times(square, a));
        return g.times(g.times(seventh, seventh), a);
    }

    private static Object wideRun() {
        ImageGcds g = new ImageGcds(3);
        int a = wide(g);
        int number = Checks.make(g, "3");
        while (g.count() < 60) {
            g.times(a, number);
        }
        CHECKS.same("terms", 4096, g.terms(59));
        return g;
    }

    private static Object sumRun() {
        ImageGcds g = new ImageGcds(3);
        int a = wide(g);
        while (g.count() < 60) {
            g.add(a, a);
        }
        return g;
    }

    private static Object dearRun() {
        ImageGcds g = new ImageGcds(3);
        int a = wide(g);
        int b = Checks.make(g, "x^2+y^3-z+1");
        int c = Checks.make(g, "x^3*y-2*z*x+y^2+z");
        while (g.count() < 56) {
            g.gcd(a, b);
            g.part(a, 15);
            g.content(a, 1);
            g.resultant(b, c, 0);
        }
        return g;
    }

    private static Object partRun() {
        ImageGcds g = new ImageGcds(3);
        int a = wide(g);
        for (int k = 1; g.count() < 60; k = k % 45 + 1) {
            g.part(a, k);
        }
        return g;
    }

    private static Object vainRun() {
        ImageGcds g = new ImageGcds(3);
        int a = wide(g);
        int b = Checks.make(g, "x^2+y^3-z+1");
        for (int i = 0; i < 480; i++) {
            g.over(a, b);
        }
        return g;
    }
}
