import com.sun.management.ThreadMXBean;
import java.lang.management.ManagementFactory;

/** Calls make nothing: all rows are made by the constructor, and these are small. */
public final class RoomTest {
    private static final long OBJECT_BYTES = 150_000;
    private static final long CALL_BYTES = 20_000;
    private static final ThreadMXBean THREADS = (ThreadMXBean) ManagementFactory.getThreadMXBean();

    public static void main(String[] args) {
        use(new TextBurrow());
        long before = made();
        TextBurrow burrow = new TextBurrow();
        long object = made() - before;
        Due.isEqual("a new object takes " + object + " bytes", object < OBJECT_BYTES, true);
        before = made();
        use(burrow);
        long calls = made() - before;
        Due.isEqual("512 calls take " + calls + " bytes", calls < CALL_BYTES, true);
        Due.end();
    }

    private static long made() {
        return THREADS.getThreadAllocatedBytes(Thread.currentThread().getId());
    }

    private static void use(TextBurrow burrow) {
        burrow.newText();
        burrow.newText();
        burrow.fibonacci(0, 70);
        burrow.repeat(0, 10, 60);
        burrow.draw(1, 5, 27, 2);
        burrow.sign('a');
        burrow.sign('?');
        for (int i = 0; i < 29; i++) {
            burrow.remove(0, i);
            burrow.insert(0, i, 'b');
            burrow.isSound();
            burrow.near(3);
            burrow.at(0);
            burrow.top();
            burrow.listed(0);
            burrow.distinct(0);
            burrow.distinctAnew(9);
            burrow.node(3, 'c');
            burrow.phrase('7', 3, 'f');
            burrow.phrase('8', 3, 'f');
            burrow.least();
            burrow.density();
            burrow.select(6, 9);
            burrow.quantile(2, 80, 11);
            burrow.byRules(100);
        }
    }
}
