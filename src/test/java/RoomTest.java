import com.sun.management.ThreadMXBean;
import java.lang.management.ManagementFactory;

/** The room that a run takes: rows are made in the constructor and used again, so that calls make next to nothing. */
public final class RoomTest {
    // 7.3 million fields and elements are the bound, at 4 bytes each; a run takes far less.
    private static final long MOST_FOR_A_RUN = 4 * 7_300_000;
    private static final int MOST_CALLS = 512;
    private static final int CALLS_TO_FILL = 5 * 5 + 8 + 20 * 8;
    private static final Check C = new Check("RoomTest");

    private RoomTest() { }

    public static void main(String[] args) {
        Houses.withOneOut().digest();
        runsAreSmall();
        moreThan512Words();
        C.end();
    }

    private static void runsAreSmall() {
        ThreadMXBean threads = (ThreadMXBean) ManagementFactory.getThreadMXBean();
        long id = Thread.currentThread().getId();
        long first = threads.getThreadAllocatedBytes(id);
        Marginhouse x = new Marginhouse();
        fill(x);
        for (int call = CALLS_TO_FILL; call < MOST_CALLS; call++) {
            x.digest();
        }
        long second = threads.getThreadAllocatedBytes(id);
        C.due("a run of digests is small", true, second - first < MOST_FOR_A_RUN);
        Marginhouse y = new Marginhouse();
        fill(y);
        for (int call = CALLS_TO_FILL; call < MOST_CALLS; call++) {
            y.book(call % 20);
        }
        C.due("a run of books is small", true, threads.getThreadAllocatedBytes(id) - second < MOST_FOR_A_RUN);
    }

    private static void fill(Marginhouse x) {
        for (int i = 0; i < 5; i++) {
            x.member(false);
            x.client(i);
            x.client(i);
            x.scenario();
            x.shift(i, i % 3, -7 + i, 2);
        }
        for (int i = 0; i < 8; i++) {
            x.contract(i % 3, i % 6, 50);
        }
        for (int i = 0; i < 20; i++) {
            for (int series = 0; series < 8; series++) {
                x.trade(i, (i + 1 + series) % 20, series, 1 + i, 50 + series);
            }
        }
    }

    /** Behind the 512th call the answers are free, but no call may fail by itself. */
    private static void moreThan512Words() {
        Marginhouse x = new Marginhouse();
        fill(x);
        for (int i = 0; i < 2000; i++) {
            for (String call : new String[] {"trade " + i % 20 + " " + (i + 1) % 20 + " " + i % 8 + " 1 50",
                "correct " + i + " " + i % 100, "settle", "endow 0 1", "undo", "ofTrade " + i + " 4", "isSound"}) {
                String got = i % 40 == 0 || !call.equals("settle") ? Script.answer(x, call) : "";
                C.due(call + " fails by itself", false, got.contains("Exception"));
            }
        }
    }
}
