import com.sun.management.ThreadMXBean;
import java.lang.management.ManagementFactory;

/** The room that a run takes: rows are made in the constructor and used again, so that calls make next to nothing. */
public final class RoomTest {
    // 600,000 objects and 7.3 million elements are the bound; this is far below, at 4 bytes an element.
    private static final long MOST_FOR_A_HOUSE = 100_000;
    private static final long MOST_FOR_A_RUN = 512 * 400;
    private static final Check C = new Check("RoomTest");

    private RoomTest() { }

    public static void main(String[] args) {
        ThreadMXBean threads = (ThreadMXBean) ManagementFactory.getThreadMXBean();
        Houses.withOneOut().digest();
        long id = Thread.currentThread().getId();
        long first = threads.getThreadAllocatedBytes(id);
        Marginhouse x = new Marginhouse();
        long second = threads.getThreadAllocatedBytes(id);
        fill(x);
        long third = threads.getThreadAllocatedBytes(id);
        for (int i = 0; i < 512; i++) {
            x.digest();
        }
        for (int i = 0; i < 512; i++) {
            x.book(i % 20);
        }
        long last = threads.getThreadAllocatedBytes(id);
        C.due("a house is small", true, second - first < MOST_FOR_A_HOUSE);
        C.due("a run of digests and books is small", true, last - third < MOST_FOR_A_RUN);
        moreThan512Words();
        C.end();
    }

    private static void fill(Marginhouse x) {
        for (int i = 0; i < 5; i++) {
            x.member(false);
            x.client(i);
            x.client(i);
            x.scenario();
            x.shift(i, i % 3, -7 + i, 2);
        }
        for (int i = 0; i < 8; i++) {
            x.contract(i % 3, i % 6, 50);
        }
        for (int i = 0; i < 20; i++) {
            for (int series = 0; series < 8; series++) {
                x.trade(i, (i + 1 + series) % 20, series, 1 + i, 50 + series);
            }
        }
    }

    /** Behind the 512th call the answers are free, but no call may fail by itself. */
    private static void moreThan512Words() {
        Marginhouse x = new Marginhouse();
        fill(x);
        for (int i = 0; i < 2000; i++) {
            x.trade(i % 20, (i + 1) % 20, i % 8, 1, 50);
            x.correct(i % x.house(6), i % 100);
        }
        for (int i = 0; i < 120 && x.house(5) < 99; i++) {
            x.settle();
            x.endow(0, 1);
            x.undo();
            x.settle();
        }
        C.due("isSound()", true, x.isSound());
    }
}
