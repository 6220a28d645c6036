import java.lang.management.ManagementFactory;

/** What an object takes up: its rows are made with it, and calls make next to nothing more. */
public final class RoomTest {
    private static final String FULL = "mean 300;squat block*speed*speed*draught/(water+1)/100;gap 240;surge -5;"
            + "wave 200 720 5;wave 100 710 6;wave 90 2000 7;wave 80 61 8;wave 70 800 2000;wave 60 1999 10;"
            + "bar 200 900 20 0 100;bar 200 950 20 60 90lie;bar 200 960 20 90 80;bar 200 980 20 120 70lie;"
            + "bar 200 990 20 200 60;bar 200 999 20 300 150lie;"
            + "ship 800 50 10 4 25;ship 810 60 20 4 25out;ship 820 70 30 4 25;ship 830 80 40 4 25out;"
            + "ship 840 90 50 4 25;ship 850 95 60 4 25out;";
    private static final int CALLS = 512;

    public static void main(String[] args) {
        Check check = new Check("RoomTest");
        com.sun.management.ThreadMXBean threads = (com.sun.management.ThreadMXBean) ManagementFactory.getThreadMXBean();
        long thread = Thread.currentThread().getId();
        Texts.gates(FULL).order(63, 4, 0, -1);
        long before = threads.getThreadAllocatedBytes(thread);
        TideGates x = new TideGates();
        long made = threads.getThreadAllocatedBytes(thread) - before;
        check.isTrue("a new object takes " + made + " bytes", made < 200000);
        check.is("a full text", Texts.tell(x, FULL), 12);
        before = threads.getThreadAllocatedBytes(thread);
        long sum = 0;
        for (int i = 0; i < CALLS; i++) {
            sum += dearCall(x, i);
        }
        long more = threads.getThreadAllocatedBytes(thread) - before;
        check.isTrue(CALLS + " dear calls take " + more + " bytes more, answers " + sum, more < 10000);
        before = threads.getThreadAllocatedBytes(thread);
        for (int i = 0; i < CALLS; i++) {
            x.surge(i % 200);
            x.sound(0, 500 + i);
            x.undo();
        }
        more = threads.getThreadAllocatedBytes(thread) - before;
        check.isTrue("acts take " + more + " bytes more", more < 10000);
        check.end();
    }

    private static long dearCall(TideGates x, int i) {
        int m = 37 * i % 10001;
        switch (i % 10) {
            case 0:
                return x.order(63, 4, m, -1);
            case 1:
                return x.convoy(63, 4, m);
            case 2:
                return x.soonest(i % 6, m);
            case 3:
                return x.joined(i % 6, 4, m, -1, 0);
            case 4:
                return x.deepest(i % 6, m, 4);
            case 5:
                return x.window(i % 6, 5, 4, m, -1, 0);
            case 6:
                return x.peak(m, 2000, 0) + x.above(3, 900, m, 2000);
            case 7:
                return x.least(i % 6, m, 4);
            case 8:
                return x.fastest(i % 6, 2, m) + x.close(i % 6, m, 4);
            default:
                return x.aground() + x.print();
        }
    }
}
