import com.sun.management.ThreadMXBean;
import java.lang.management.ManagementFactory;

/** All rows are made with the object: calls make none, so a run of any 512 stays in its room. */
public final class RoomTest {
    private static final int CALLS = 512;

    private RoomTest() {
    }

    public static void main(String[] args) {
        ThreadMXBean beans = (ThreadMXBean) ManagementFactory.getThreadMXBean();
        run();
        long before = beans.getCurrentThreadAllocatedBytes();
        long answers = run();
        long used = beans.getCurrentThreadAllocatedBytes() - before;
        Check.due("bytes of one object and its " + CALLS + " dearest calls, " + used + ", are few", used < 20000, true);
        Check.due("answers", answers, run());
        Check.done("RoomTest");
    }

    private static long run() {
        SeatRacing x = new SeatRacing();
        x.crew(6);
        long answers = 0;
        for (int call = 1; call < CALLS; call++) {
            switch (call % 9) {
                case 0: answers += x.race(1 << call / 9 % 5, 32, call, call / 9 % 3 - 1); break;
                case 1: answers += x.next(2, 3); break;
                case 2: answers += x.odd(1); break;
                case 3: answers += x.even(2, 0); break;
                case 4: answers += x.fewest(2); break;
                case 5: answers += x.feed(0x6c696d69, 0x7420373b, 0x20202020, 0x20202020, 0x20202020); break;
                case 6: answers += x.tell(); break;
                case 7: answers += x.suit(0, 1, false); break;
                default: answers += x.count(5); break;
            }
        }
        return answers;
    }
}
