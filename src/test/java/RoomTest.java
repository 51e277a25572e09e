import java.lang.management.ManagementFactory;

/** All calls of a run live in one room: what is made is made with the object, and the dearest calls make nothing. */
public final class RoomTest {
    private static long kept = 0;

    public static void main(String[] args) {
        com.sun.management.ThreadMXBean bean = (com.sun.management.ThreadMXBean) ManagementFactory.getThreadMXBean();
        long id = Thread.currentThread().getId();
        run(new SurgeBasin());
        long before = bean.getThreadAllocatedBytes(id);
        SurgeBasin x = new SurgeBasin();
        long made = bean.getThreadAllocatedBytes(id);
        run(x);
        long after = bean.getThreadAllocatedBytes(id);
        System.out.println("an object makes " + (made - before) + " bytes, its calls " + (after - made));
        if (made - before > 20000 || after - made > 2000) {
            System.out.println("that is too much");
            System.exit(1);
        }
    }

    private static void write(SurgeBasin x, int t, String s) {
        x.text(t, s.length());
        for (int i = 0; i < s.length(); i++) {
            x.put(t, i, s.charAt(i));
        }
    }

    private static void run(SurgeBasin x) {
        write(x, 0, "c16 d0:9 d1:9 m8:9 r0");
        write(x, 1, "p14:99p20:99p33:99p7:99");
        x.harbour(0, 0);
        for (int i = 0; i < 4; i++) {
            x.sea(i, 1);
        }
        for (int s = 0; s < 3; s++) {
            x.ship(s, s, 1, 5, 0, 10);
        }
        for (int i = 0; i < 5; i++) {
            x.work(i, i, 1, 1);
        }
        x.night(0, 0);
        for (int i = 0; i < 18; i++) {
            kept += x.go(400) + x.gauge(3, 60, 0) + x.keep(1) + x.on(1) + x.beat(0) + x.span(0) + x.mean(0) + x.ring(0, 8)
                    + x.roll(0) + x.kind(1, 0, 0, 0) + x.mark(1, 0, 0, 0, 2) + x.wakes(0) + x.tight(0, 0, 0)
                    + x.where(1, 0, 0) + x.tonight(0, 0, 2) + x.odds(0, 0) + x.worse(0, 0) + x.least(0, 0, 500)
                    + x.since(0, 0, 0, 0, 0) + x.which(0, 0, 0) + x.copy(0, 0, 0, 1, 9) + x.fault(0, false)
                    + x.does(0, 0, 31) + x.row(1, 60) + x.text(2, 100) + x.digest();
        }
    }
}
