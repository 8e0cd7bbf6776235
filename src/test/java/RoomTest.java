import java.lang.management.ManagementFactory;

/** Calls make nothing: all runs live in one room, so an object's rows are made once and used again. */
public final class RoomTest {
    private static final int CALLS = 512;
    private static int wrong = 0;

    public static void main(String[] args) {
        if (!(ManagementFactory.getThreadMXBean() instanceof com.sun.management.ThreadMXBean bean)) {
            System.out.println("room: this machine does not count");
            return;
        }
        dearestCalls(new InfluenceRows());
        long start = bean.getCurrentThreadAllocatedBytes();
        InfluenceRows x = new InfluenceRows();
        long made = bean.getCurrentThreadAllocatedBytes();
        dearestCalls(x);
        long used = bean.getCurrentThreadAllocatedBytes();
        check("a new object", made - start, 32_000);
        check(CALLS + " calls", used - made, 16_000);
        if (wrong > 0) {
            System.exit(1);
        }
    }

    private static void check(String what, long bytes, long most) {
        System.out.println("room: " + what + " took " + bytes + " bytes");
        if (bytes > most) {
            wrong++;
            System.out.println("room: that is more than " + most);
        }
    }

    /** Each round changes the row of beams, so that nothing is known any more. */
    private static void dearestCalls(InfluenceRows x) {
        String text = "S11x7.9x5.7x11F";
        for (int i = 0; i < text.length(); i++) {
            x.unit(text.charAt(i));
        }
        x.read();
        for (int i = 0; i < 8; i++) {
            x.row(i % 3, i % 3, 1 + i % 4);
        }
        x.settled(0, 999);
        for (int i = 0; i < (CALLS - 25) / 7; i++) {
            x.member(i % 3, 12 - i % 5, 1 + i % 12);
            x.at(i % 8, i % 3, 1 + i % 3, 2);
            x.area(i % 8, i % 2 == 0 ? 1 : -1, 3);
            x.turned(2);
            x.sums();
            x.move(1, 999, 997, 1);
            x.hinge(1, i % 2, i % 3 == 0);
        }
    }
}
