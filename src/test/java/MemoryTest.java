import com.sun.management.ThreadMXBean;
import java.lang.management.ManagementFactory;

/** Rule 12 of LANGUAGE.md: a house's rows are made with it, and no call makes more than what it adds to the room. */
public final class MemoryTest {
    private static final int CALLS = 512;

    // The rows take some 270,000 bytes; a record that is added, with its list's row, takes some hundred.
    private static final long MOST_BYTES_MADE_WITH_IT = 400_000L;
    private static final long MOST_BYTES_OF_ALL_CALLS = 8_000L;

    private static final ThreadMXBean MEASURE = (ThreadMXBean) ManagementFactory.getThreadMXBean();
    private static final Check check = new Check();

    private EscapadeHouse house;
    private int calls;
    private long answers;

    public static void main(String[] args) {
        // The first runs load classes, which would be counted too.
        for (int i = 0; i < 3; i++) {
            new MemoryTest().bytesMadeByCalls();
        }
        check.due("a new house keeps within its bytes", true,
                () -> new MemoryTest().bytesMadeWithIt() <= MOST_BYTES_MADE_WITH_IT);
        check.due("all calls of a run keep within their bytes", true,
                () -> new MemoryTest().bytesMadeByCalls() <= MOST_BYTES_OF_ALL_CALLS);
        check.due("all calls of a run were made", CALLS, () -> {
            MemoryTest test = new MemoryTest();
            test.bytesMadeByCalls();
            return test.calls;
        });
        check.end();
    }

    private long bytesMadeWithIt() {
        long before = bytes();
        house = new EscapadeHouse();
        return bytes() - before;
    }

    private long bytesMadeByCalls() {
        bytesMadeWithIt();
        long before = bytes();
        build();
        while (calls <= CALLS - 14) {
            proveAnew();
        }
        while (calls < CALLS) {
            count(house.isSound() ? 1 : 0);
        }
        return bytes() - before;
    }

    private void build() {
        count(house.addPlace());
        count(house.addPlace());
        count(house.addPlace());
        for (int i = 0; i < 3; i++) {
            count(house.addKeyLock(0, i, true));
            count(house.addProp(0, -1, i));
            count(house.addSwitch(0));
            count(house.infer(1 << i, i + 1));
        }
        count(house.addDoor(0, 1, 0, false));
        count(house.addDoor(1, 2, 1, true));
    }

    /** 14 calls; the change of the end makes the proof go through all states again. */
    private void proveAnew() {
        count(house.setEnd(1));
        count(house.states());
        count(house.setEnd(2));
        count(house.states());
        count(house.deadEnds());
        count(house.wayLeft());
        count(house.hint());
        count(house.canIn(5) ? 1 : 0);
        count(house.isWrong(20) ? 1 : 0);
        count((long) house.meanWay());
        count(house.isSound() ? 1 : 0);
        count(house.act(20) ? 1 : 0);
        count(house.checksum());
        count(house.reset());
    }

    private void count(long answer) {
        calls++;
        answers += answer;
    }

    private static long bytes() {
        return MEASURE.getThreadAllocatedBytes(Thread.currentThread().getId());
    }
}
