/** Promises 10 to 16: acts, and what the group meets by them. */
public final class PlayTest {
    private static final Class<?> NO_INDEX = IndexOutOfBoundsException.class;
    private static final Class<?> NO_ARGUMENT = IllegalArgumentException.class;
    private static final Class<?> NOT_DONE = UnsupportedOperationException.class;

    private static final Check check = new Check();

    public static void main(String[] args) {
        actsGoByTheirNumbers();
        theGroupGoes();
        theGroupLooks();
        theGroupTakes();
        theGroupOpens();
        theGroupTurns();
        nothingIsDoneInTheEnd();
        actsAreTakenBack();
        questionsRefuse();
        check.end();
    }

    /** Places 0 and 1 and the end 2, which no door leads to. */
    private static EscapadeHouse threePlaces() {
        EscapadeHouse house = new EscapadeHouse();
        house.addPlace();
        house.addPlace();
        house.addPlace();
        house.setEnd(2);
        return house;
    }

    private static boolean isAct(int number) {
        return number >= 0 && number <= 7 || number == 10 || number >= 20 && number <= 27
                || number >= 40 && number <= 45 || number >= 60 && number <= 63;
    }

    private static void actsGoByTheirNumbers() {
        EscapadeHouse house = threePlaces();
        for (int number = -3; number < 70; number++) {
            int act = number;
            boolean looks = act == 10;
            Object can = isAct(act) ? looks : NO_ARGUMENT;
            Object done = isAct(act) ? looks ? false : NOT_DONE : NO_ARGUMENT;
            Object wrong = isAct(act) ? looks ? false : NOT_DONE : NO_ARGUMENT;
            check.due("16: can(" + act + ")", can, () -> house.can(act));
            check.due("22: isWrong(" + act + ")", wrong, () -> house.isWrong(act));
            check.due("10: act(" + act + ")", done, () -> house.act(act));
        }
        check.due("10: act(least)", NO_ARGUMENT, () -> house.act(Integer.MIN_VALUE));
        check.due("10: act(greatest)", NO_ARGUMENT, () -> house.act(Integer.MAX_VALUE));
        check.due("16: can(least)", NO_ARGUMENT, () -> house.can(Integer.MIN_VALUE));
        check.due("11: reset() counts only what was done", 1, house::reset);
    }

    private static void theGroupGoes() {
        EscapadeHouse house = threePlaces();
        house.addDoor(0, 1, -1, false);
        house.addDoor(1, 0, -1, true);
        house.addDoor(0, 1, -1, true);
        check.due("10: act(0)", true, () -> house.act(0));
        check.due("12: place()", 1, house::place);
        check.due("10: act(2) against a slamming door", NOT_DONE, () -> house.act(2));
        check.due("10: act(1)", true, () -> house.act(1));
        check.due("12: place()", 0, house::place);
        check.due("10: act(2)", true, () -> house.act(2));
        check.due("10: act(0) back", true, () -> house.act(0));
        check.due("12: place()", 0, house::place);
        check.due("11: reset()", 4, house::reset);
    }

    private static void theGroupLooks() {
        EscapadeHouse house = threePlaces();
        house.addLock('s', 0, 0);
        house.addDoor(0, 1, -1, false);
        house.addProp(0, -1, 1);
        house.addProp(1, -1, 2);
        house.addProp(0, 0, 3);
        house.addProp(0, -1, -1);
        check.due("10: act(10)", true, () -> house.act(10));
        check.due("13: knows(1) in sight", true, () -> house.knows(1));
        check.due("13: knows(2) elsewhere", false, () -> house.knows(2));
        check.due("13: knows(3) in a shut box", false, () -> house.knows(3));
        check.due("13: knows(0), on none", false, () -> house.knows(0));
        check.due("10: act(10) again", false, () -> house.act(10));
        house.act(40);
        check.due("13: knows(3) before looking again", false, () -> house.knows(3));
        check.due("10: act(10) into the open box", true, () -> house.act(10));
        check.due("13: knows(3)", true, () -> house.knows(3));
        house.reset();
        check.due("13: knows(1) after a reset", false, () -> house.knows(1));

        house.act(20);
        check.due("13: knows(1) by taking alone", false, () -> house.knows(1));
        house.act(0);
        house.act(10);
        check.due("13: knows(1) by looking at what it has", true, () -> house.knows(1));
        check.due("13: knows(2)", true, () -> house.knows(2));
    }

    private static void theGroupTakes() {
        EscapadeHouse house = threePlaces();
        house.addLock('s', 1, 0);
        house.addDoor(0, 1, -1, false);
        house.addProp(0, -1, -1);
        house.addProp(0, 0, -1);
        house.addProp(1, -1, -1);
        check.due("14: propAt(0)", 'p', () -> house.propAt(0));
        check.due("10: act(20)", true, () -> house.act(20));
        check.due("14: propAt(0) in hands", 'h', () -> house.propAt(0));
        check.due("14: propAt(1)", 'p', () -> house.propAt(1));
        check.due("16: can(20) again", false, () -> house.can(20));
        check.due("10: act(20) again", NOT_DONE, () -> house.act(20));
        check.due("10: act(21) in a shut box", NOT_DONE, () -> house.act(21));
        check.due("10: act(22) elsewhere", NOT_DONE, () -> house.act(22));
        house.act(0);
        check.due("10: act(22)", true, () -> house.act(22));
        house.act(40);
        check.due("16: can(21) from elsewhere", false, () -> house.can(21));
        house.act(0);
        check.due("10: act(21) from a box that was opened elsewhere", true, () -> house.act(21));
        check.due("11: reset()", 6, house::reset);
        check.due("14: propAt(0) after a reset", 'p', () -> house.propAt(0));
    }

    private static void theGroupOpens() {
        EscapadeHouse house = threePlaces();
        house.addKeyLock(0, 0, false);
        house.addKeyLock(0, 0, true);
        house.addKeyLock(0, 0, true);
        house.addDoor(0, 1, 1, true);
        house.addProp(0, -1, 5);
        check.due("15: isOpen(1)", false, () -> house.isOpen(1));
        check.due("10: act(41) without the prop", NOT_DONE, () -> house.act(41));
        house.act(20);
        check.due("10: act(40)", true, () -> house.act(40));
        check.due("15: isOpen(0)", true, () -> house.isOpen(0));
        check.due("15: isOpen(1) still", false, () -> house.isOpen(1));
        check.due("16: can(40) again", false, () -> house.can(40));
        check.due("10: act(40) again", NOT_DONE, () -> house.act(40));
        check.due("16: can(0) through the shut lock", false, () -> house.can(0));
        check.due("10: act(41)", true, () -> house.act(41));
        check.due("16: can(0) through the open lock", true, () -> house.can(0));
        check.due("14: propAt(0) broken", 'x', () -> house.propAt(0));
        check.due("16: can(42) by a broken prop", false, () -> house.can(42));
        check.due("16: can(20), broken", false, () -> house.can(20));
        check.due("10: act(10) at a broken prop", false, () -> house.act(10));
        check.due("13: knows(5) from a broken prop", false, () -> house.knows(5));
        check.due("11: reset()", 4, house::reset);
        check.due("15: isOpen(0) after a reset", false, () -> house.isOpen(0));
        check.due("14: propAt(0) after a reset", 'p', () -> house.propAt(0));
    }

    private static void theGroupTurns() {
        EscapadeHouse house = threePlaces();
        house.addSwitch(0);
        house.addSwitch(0);
        house.addSwitch(1);
        house.addLock('s', 0, 1 | 2);
        check.due("10: act(62) elsewhere", NOT_DONE, () -> house.act(62));
        check.due("10: act(60)", true, () -> house.act(60));
        check.due("16: can(40) with one on", false, () -> house.can(40));
        check.due("10: act(61)", true, () -> house.act(61));
        check.due("16: can(40) with both on", true, () -> house.can(40));
        check.due("10: act(60) off", true, () -> house.act(60));
        check.due("16: can(40) with one off", false, () -> house.can(40));
        house.act(60);
        house.act(40);
        house.act(60);
        check.due("15: isOpen(0) stays", true, () -> house.isOpen(0));
    }

    private static void nothingIsDoneInTheEnd() {
        EscapadeHouse house = threePlaces();
        house.addDoor(0, 2, -1, false);
        house.addProp(2, -1, 0);
        house.addSwitch(2);
        house.addLock('c', 2, 0);
        house.act(0);
        check.due("12: place() in the end", 2, house::place);
        for (int act : new int[] {0, 10, 20, 40, 60}) {
            check.due("16: can(" + act + ") in the end", false, () -> house.can(act));
            check.due("10: act(" + act + ") in the end", NOT_DONE, () -> house.act(act));
        }
        check.due("11: reset()", 1, house::reset);
        check.due("12: place() after a reset", 0, house::place);
    }

    private static void actsAreTakenBack() {
        EscapadeHouse house = threePlaces();
        house.addDoor(0, 1, -1, false);
        house.addSwitch(0);
        house.addLock('s', 0, 1);
        house.addProp(0, -1, 0);
        check.due("11: reset() of none", 0, house::reset);
        house.act(10);
        house.act(10);
        house.act(60);
        house.act(40);
        house.act(20);
        house.act(0);
        check.due("11: reset() counts acts that changed nothing", 6, house::reset);
        check.due("25: checksum() after a reset", 0L, house::checksum);
        check.due("16: can(40) after a reset", false, () -> house.can(40));
        check.due("11: reset() again", 0, house::reset);
    }

    private static void questionsRefuse() {
        EscapadeHouse house = threePlaces();
        house.addProp(0, -1, 0);
        house.addLock('c', 0, 1);
        check.due("13: knows(-1)", NO_ARGUMENT, () -> house.knows(-1));
        check.due("13: knows(11)", false, () -> house.knows(11));
        check.due("13: knows(12)", NO_ARGUMENT, () -> house.knows(12));
        check.due("14: propAt(-1)", NO_INDEX, () -> house.propAt(-1));
        check.due("14: propAt(1)", NO_INDEX, () -> house.propAt(1));
        check.due("15: isOpen(-1)", NO_INDEX, () -> house.isOpen(-1));
        check.due("15: isOpen(1)", NO_INDEX, () -> house.isOpen(1));
    }
}
