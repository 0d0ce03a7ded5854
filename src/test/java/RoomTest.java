import java.lang.management.ManagementFactory;

/** The room: an object is small, and the calls make none. */
final class RoomTest {
    // the machine itself may make a little while it loads what a call needs
    private static final long MOST_FOR_CALLS = 16_384;
    private static final long MOST_FOR_ONE = 8_192;
    private static final int MANY = 100;

    private static long made() {
        return ((com.sun.management.ThreadMXBean) ManagementFactory.getThreadMXBean()).getCurrentThreadAllocatedBytes();
    }

    public static void main(String[] args) {
        dear(new BoulderLand());
        made();
        BoulderLand[] all = new BoulderLand[MANY];
        long before = made();
        for (int i = 0; i < MANY; i++) {
            all[i] = new BoulderLand();
        }
        long each = (made() - before) / MANY;
        System.out.println("bytes for an object: " + each);
        Check.so("an object is small", each <= MOST_FOR_ONE);
        before = made();
        int sum = 0;
        for (BoulderLand x : all) {
            sum += dear(x);
        }
        long forCalls = made() - before;
        System.out.println("bytes for " + MANY + " runs of calls: " + forCalls + " (" + sum + ")");
        Check.so("calls make nothing", forCalls <= MOST_FOR_CALLS);
        Check.end();
    }

    private static int dear(BoulderLand x) {
        int sum = x.land(6, 6);
        for (int c = 0; c < 36; c++) {
            sum += x.cell(c, 0, c * 7 % 30) + x.cell(c, 1, c % 2);
        }
        for (int i = 0; i < 5; i++) {
            sum += x.ice(i * 7, 150, i + 1, 20);
        }
        sum += x.flood(25);
        for (int i = 0; i < 12; i++) {
            sum += x.stone(i * 3, i % 2, i % 4 + 1) + x.sign(4, 0, i, 9);
        }
        for (int i = 0; i < 30; i++) {
            sum += x.dug(i % 12, i) + x.best() + x.bestGo(0) + x.fits() + x.take(i % 3);
            sum += x.unlike(i % 3, (i + 1) % 3) + x.look(i % 3, (i + 1) % 3, i) + x.lake(i % 6) + x.level(i % 6, i);
            sum += x.over(i % 10, i * 3 % 10, true) + x.ring() + x.drops() + x.drop(0);
        }
        return sum;
    }
}
