/** Promises 23 and 24: the sensors and what the desk sees. */
public final class DeskTest {
    private static final Class<?> NO_INDEX = IndexOutOfBoundsException.class;

    private static final Check check = new Check();

    public static void main(String[] args) {
        sensorsShowLocks();
        aFailingSensorShowsWhatWasSeenLast();
        sensorsOutlastAReset();
        sensorsRefuse();
        check.end();
    }

    /** Two locks in place 0 that open at once; the end is the place 1. */
    private static EscapadeHouse twoLocks() {
        EscapadeHouse house = new EscapadeHouse();
        house.addPlace();
        house.addPlace();
        house.setEnd(1);
        house.addLock('c', 0, 0);
        house.addLock('c', 0, 0);
        return house;
    }

    private static void sensorsShowLocks() {
        EscapadeHouse house = twoLocks();
        check.due("24: seen(0)", 's', () -> house.seen(0));
        house.act(40);
        check.due("24: seen(0) open", 'o', () -> house.seen(0));
        check.due("24: seen(1)", 's', () -> house.seen(1));
        house.reset();
        check.due("24: seen(0) after a reset", 's', () -> house.seen(0));
    }

    private static void aFailingSensorShowsWhatWasSeenLast() {
        EscapadeHouse house = twoLocks();
        check.due("23: setSensor(0, true) at first", true, () -> house.setSensor(0, true));
        check.due("23: setSensor(0, false)", true, () -> house.setSensor(0, false));
        check.due("23: setSensor(0, false) again", false, () -> house.setSensor(0, false));
        house.act(40);
        house.act(41);
        check.due("24: seen(0) without its sensor", 's', () -> house.seen(0));
        check.due("24: seen(1) with its sensor", 'o', () -> house.seen(1));
        check.due("23: setSensor(0, false) when open", false, () -> house.setSensor(0, false));
        check.due("24: seen(0) still", 's', () -> house.seen(0));
        check.due("23: setSensor(0, true)", false, () -> house.setSensor(0, true));
        check.due("24: seen(0) at once when it works", 'o', () -> house.seen(0));
    }

    private static void sensorsOutlastAReset() {
        EscapadeHouse house = twoLocks();
        house.act(40);
        house.setSensor(0, false);
        house.setSensor(1, false);
        house.act(41);
        house.reset();
        check.due("24: seen(0), open when it was seen last", 'o', () -> house.seen(0));
        check.due("24: seen(1), shut when it was seen last", 's', () -> house.seen(1));
        check.due("15: isOpen(0)", false, () -> house.isOpen(0));
        check.due("28: isSound()", true, house::isSound);
        check.due("23: setSensor(0, true) after a reset", false, () -> house.setSensor(0, true));
        check.due("24: seen(0) when it works", 's', () -> house.seen(0));
        check.due("2: addPlace() with sensors set, which are no acts", 2, house::addPlace);
    }

    private static void sensorsRefuse() {
        EscapadeHouse house = twoLocks();
        check.due("23: setSensor(2)", NO_INDEX, () -> house.setSensor(2, false));
        check.due("23: setSensor(-1)", NO_INDEX, () -> house.setSensor(-1, false));
        check.due("24: seen(2)", NO_INDEX, () -> house.seen(2));
        check.due("24: seen(-1)", NO_INDEX, () -> house.seen(-1));
        house.addLock('c', 0, 0);
        check.due("23: setSensor(2) works at first", true, () -> house.setSensor(2, true));
        check.due("24: seen(2)", 's', () -> house.seen(2));
    }
}
