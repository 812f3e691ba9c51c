import com.sun.management.ThreadMXBean;
import java.lang.management.ManagementFactory;

/** All calls of a run live in one room: a call makes no objects, and a new object is small. */
final class RoomTest {
    private static final int TIMES = 500;
    // The counter's own cost and what the machine may make beside us; one array of 16 a round would be 40,000.
    private static final long SLACK = 20_000;
    private static final Check check = new Check();

    public static void main(String[] args) {
        ThreadMXBean counter = (ThreadMXBean) ManagementFactory.getThreadMXBean();
        // A new one each time, as an object is asked 512 times at most: 448 calls fill it, one round is left.
        RankBench[] benches = new RankBench[TIMES];
        for (int i = 0; i < TIMES; i++) {
            benches[i] = Samples.eightQuestions();
        }
        callAll(Samples.eightQuestions());
        counter.getCurrentThreadAllocatedBytes();
        long before = counter.getCurrentThreadAllocatedBytes();
        for (int i = 0; i < TIMES; i++) {
            callAll(benches[i]);
        }
        long calls = counter.getCurrentThreadAllocatedBytes() - before;
        check.dueTrue("calls made " + calls + " bytes", calls < SLACK);

        before = counter.getCurrentThreadAllocatedBytes();
        long sum = 0;
        for (int i = 0; i < TIMES; i++) {
            sum += new RankBench().bottom();
        }
        long objects = counter.getCurrentThreadAllocatedBytes() - before;
        check.due("objects", sum, TIMES);
        check.dueTrue("an object took " + objects / TIMES + " bytes", objects / TIMES < 10_000);
        check.end();
    }

    private static void callAll(RankBench x) {
        x.empty(2, 0);
        x.rank(2, 0, 1);
        x.drop(2, 0);
        x.grade(0, 0, 1);
        x.at(0, 0, 1);
        x.count(0, 0);
        for (int what = 0; what <= 8; what++) {
            x.measure(0, 0, what, 16);
            x.mean(0, what, 16);
            x.odds(0, 1, what, 16);
            x.wins(0, 1, what, 16, 0);
        }
        x.gain(0, 0, 16, true);
        x.likeness(0, 1, 0);
        x.overlap(0, 1, 0, 16);
        x.pool(0, 16, 0);
        x.laid(0, 1, 0, 7, 3);
        x.clicks(0, 1, 0, 7);
        x.prefer(0, 1, 0, 7, 50);
        x.top();
        x.bottom();
    }
}
