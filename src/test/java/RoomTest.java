import com.sun.management.ThreadMXBean;
import java.lang.management.ManagementFactory;

/** How little a run of calls makes: all calls of one run live in one room. */
public final class RoomTest {
    private static final Check check = new Check("RoomTest");
    private static final ThreadMXBean room = (ThreadMXBean) ManagementFactory.getThreadMXBean();

    public static void main(String[] args) {
        room.setThreadAllocatedMemoryEnabled(true);
        long id = Thread.currentThread().getId();
        // Once ahead, so that what Java itself makes for a first call is not counted.
        long sum = calls(busy());
        long before = room.getThreadAllocatedBytes(id);
        HandkerchiefsDropped x = busy();
        long made = room.getThreadAllocatedBytes(id) - before;
        check.isTrue("an object takes " + made + " bytes", made < 24000);
        before = room.getThreadAllocatedBytes(id);
        sum += calls(x);
        made = room.getThreadAllocatedBytes(id) - before;
        check.isTrue("calls take " + made + " bytes", made < 256);
        check.isTrue("they were made", sum != 0);
        check.end();
    }

    private static HandkerchiefsDropped busy() {
        HandkerchiefsDropped x = new HandkerchiefsDropped();
        for (int p = 0; p < 6; p++) {
            x.witness(11 * p, 1023, 15 * p);
            x.drop(p);
        }
        x.film(0, 20);
        return x;
    }

    /** Those that try most, and the host's. */
    private static long calls(HandkerchiefsDropped x) {
        long sum = 0;
        for (int i = 0; i < 20; i++) {
            sum += x.cast(3, 0) + x.advise(40, 0) + x.gallant(40, 1) + x.odds(i, 40, 0, 0) + x.turn(0);
            sum += x.kinds(0, 1, 1) + x.faces(0, 1, 0) + x.keens(0, 1, 0) + x.burnt(0) + x.laws(0);
            sum += x.when(-1) + x.fate(0, 1) + x.run(40, 1) + x.told(0, 8) + x.drawn(i, 1) + x.film(1, 20);
            sum += x.sheet(2, 2, 40) + x.copy(2, 0, 2, 1, 39) + x.image() + x.back();
        }
        return sum;
    }
}
