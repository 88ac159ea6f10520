import com.sun.management.ThreadMXBean;
import java.lang.management.ManagementFactory;

/** All calls of a run live in one room: the dearest ones must make next to nothing. */
public final class RoomTest {
    private static final Due due = new Due("RoomTest");
    private static final String DEAR = "i,n9,n0,n9,n0,n9,n0;>2<2>2<2>2<2>2<2+01+01+01+03+03+05+05+15";

    public static void main(String[] args) {
        ThreadMXBean bean = (ThreadMXBean) ManagementFactory.getThreadMXBean();
        long me = Thread.currentThread().getId();
        round(Due.told(DEAR));
        long before = bean.getThreadAllocatedBytes(me);
        SnowInns x = Due.told(DEAR);
        for (int i = 0; i < 30; i++) {
            round(x);
        }
        long bytes = bean.getThreadAllocatedBytes(me) - before;
        // The room has some 7.3 million elements; a run of this kind stays below a hundredth of it.
        due.is("bytes of a run: " + bytes + "; below 200000", bytes < 200000 ? 1 : 0, 1);
        due.end();
    }

    private static void round(SnowInns x) {
        x.odds(0, 8, 0);
        x.least(8, 0);
        x.turn(0, 8);
        x.corks(7);
        x.rules();
        x.kinds(5);
        x.depths(5);
        x.falls(7);
        x.where(0, 8);
        x.beds(6, 8);
        x.meet(0);
        x.sheet(0, 2, 60);
        x.ridge(3, 0, 0, DEAR.length());
        x.ridge(0, 2, 0, 60);
    }
}
