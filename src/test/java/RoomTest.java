import java.lang.management.ManagementFactory;

/** All calls of a run live in one room: what a run of the dearest calls makes is counted in bytes. */
public final class RoomTest {
    private static final int CALLS = 512;

    public static void main(String[] args) {
        com.sun.management.ThreadMXBean room = (com.sun.management.ThreadMXBean) ManagementFactory.getThreadMXBean();
        GetsOutFirst x = new GetsOutFirst();
        oneOfEach(x, 0);
        long before = room.getCurrentThreadAllocatedBytes();
        for (int k = 0; k < CALLS; k++) {
            oneOfEach(x, k);
        }
        long made = room.getCurrentThreadAllocatedBytes() - before;
        Check.holds(CALLS + " calls of each make " + made + " bytes", made < 100_000);
        before = room.getCurrentThreadAllocatedBytes();
        GetsOutFirst y = new GetsOutFirst();
        made = room.getCurrentThreadAllocatedBytes() - before;
        Check.holds("an object takes " + made + " bytes", y.count(0) == 0 && made < 10_000);
        Check.end("RoomTest");
    }

    private static void oneOfEach(GetsOutFirst x, int k) {
        x.image();
        x.back();
        x.sheet(1, 2, 40);
        x.cell(1, 2, 90 + k % 6);
        x.copy(1, 0, 1, 3, 30);
        x.riders(1, 2, 0, 5);
        x.rider(k % 6, k % 100, 90 + k % 6);
        x.set(4, k % 5, k % 6);
        x.lets(0, 1);
        x.feed('s');
        x.text();
        x.force(0);
        x.ride(k % 3);
        x.floor(k % 10, k % 3);
        x.stand(-1);
        x.one(k % 5, k % 2);
        x.change(k % 2);
        x.second(k % 2);
        x.stands();
        x.mean(k % 2, k % 2);
        x.film(0, 10);
        x.landings(0);
        x.seen(0, k % 5, k % 3);
        x.drawn(k);
        x.chance(k, 20, k % 2);
        x.taken(k % 5, k % 6);
    }
}
