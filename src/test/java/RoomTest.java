import java.lang.management.ManagementFactory;

/** All calls of a run live in one room: an object is small, and its calls make no others. */
public final class RoomTest {
    private static final int ROUNDS = 200;
    private static final long BYTES_OF_AN_OBJECT = 8_000;
    private static final long BYTES_OF_MEASURING = 16_000;

    private static final com.sun.management.ThreadMXBean BEAN =
        (com.sun.management.ThreadMXBean) ManagementFactory.getThreadMXBean();

    private static long sum = 0;

    public static void main(String[] args) {
        Checks checks = new Checks();
        LossyLanes x = new LossyLanes();
        round(x);
        long start = BEAN.getCurrentThreadAllocatedBytes();
        LossyLanes y = new LossyLanes();
        long made = BEAN.getCurrentThreadAllocatedBytes();
        for (int i = 0; i < ROUNDS; i++) {
            round(x);
        }
        long end = BEAN.getCurrentThreadAllocatedBytes();
        sum += y.count(0);
        checks.holds("an object takes " + (made - start) + " bytes", made - start < BYTES_OF_AN_OBJECT);
        checks.holds("the calls took " + (end - made) + " bytes", end - made < BYTES_OF_MEASURING);
        checks.holds("the calls were made", sum != 0);
        checks.end();
    }

    private static void round(LossyLanes x) {
        x.posts(5);
        x.lane(0, 1, 100, 1, 2);
        x.lane(1, 2, 90, 7, 2);
        x.lane(2, 1, 80, 1, 2);
        x.lane(2, 3, 70, 5, 4);
        x.lane(3, 1, 60, 9, 2);
        x.lane(3, 4, 50, 1, 3);
        x.share(1, 6, 3, 2);
        x.room(2, 33);
        x.send(0, 5, 7);
        sum += x.most(0, false) + x.most(1, true) + x.most(2, true) + x.more(3, 4, false);
        sum += x.way(0, 4) + x.row(1) + x.gain(true) + x.ring() + x.row(0) + x.gain(false);
        sum += x.left(1, false) + (x.right() ? 1 : 0) + x.count(2) + x.count(3) + x.tell(0, 6);
        x.image(1);
        x.again(1);
    }
}
