import com.sun.management.ThreadMXBean;
import java.lang.management.ManagementFactory;

/** What calls make stays in the room: an object makes its rows once, and no call makes any more. */
public final class RoomTest {
    // 14,000 elements, at 8 bytes each, times 512 calls are within 7.3 million.
    private static final long BYTES_OF_ONE = 14000L * 8;

    private static final Check check = new Check();
    private static final ThreadMXBean threads = (ThreadMXBean) ManagementFactory.getThreadMXBean();

    private RoomTest() {
    }

    public static void main(String[] args) {
        check.about("room");
        use(new ManyEyes());
        made();
        long before = made();
        ManyEyes x = new ManyEyes();
        long after = made();
        check.due("the constructor is thrifty", after - before <= BYTES_OF_ONE, true);
        before = made();
        use(x);
        after = made();
        check.due("bytes made by calls", after - before, 0);
        check.close();
    }

    private static long made() {
        return threads.getCurrentThreadAllocatedBytes();
    }

    private static void use(ManyEyes x) {
        x.question(4, -1, 0);
        x.question(3, 0, 0);
        x.things(40);
        for (int j = 0; j < 24; j++) {
            x.judge();
        }
        for (int k = 0; k < 400; k++) {
            x.answer(k % 24, k / 24, k % 3 / 2, k % 4, 9);
        }
        x.know(3, 0, 1);
        x.know(4, 0, 0);
        x.reckon(true);
        x.reckon(false);
        for (int s = 0; s < 8; s++) {
            x.row(s, s % 4, 100);
            x.set(s, 1, s);
            x.copy(0, s, 0, 1, 99);
            x.answers(s);
            x.element(s, 0);
            x.holds(s);
            x.show(s, s);
            x.countsIn(s);
        }
        for (int what = -1; what < 20; what++) {
            x.status(what);
        }
        for (int t = 0; t < 40; t++) {
            x.share(t, 0, 0);
            x.leading(t, 0);
            x.is(t % 3, t, 1);
            x.looks(t, 0);
            x.how(0, t, 0);
            x.gain(1, t, 0);
            x.next(t);
            x.total(0, t % 4);
            x.agreed(t, 0);
            x.changed(t);
            x.copied(t);
            x.top(t, 0, 0, 0);
            x.bottom(t, 0, 0);
        }
        x.rest(0);
        x.leave(0);
        x.bar(0, 900);
    }
}
