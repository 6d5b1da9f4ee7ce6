/** Promises 17 to 22: what is proved of a room, and the hints that follow. */
public final class ProofTest {
    private static final Class<?> NO_ARGUMENT = IllegalArgumentException.class;
    private static final Class<?> NO_STATE = IllegalStateException.class;
    private static final Class<?> NOT_DONE = UnsupportedOperationException.class;
    private static final Class<?> NO_WAY = java.util.NoSuchElementException.class;

    private static final Check check = new Check();

    public static void main(String[] args) {
        aKeyIsSpentOnTheWrongLock();
        statesAreCountedOnce();
        statesBehindTheEndDoNotComeUp();
        theLongestTrialIsOfFiveActs();
        theFirstActByNumbersIsHinted();
        proofsFollowTheRoom();
        allMayBeDead();
        twoThousandStatesAreGoneThrough();
        moreStatesAreNot();
        theLargestRoomsAreAnswered();
        check.end();
    }

    /** One key that breaks, and two locks for it: the lock 0 to the end, the lock 1 to a place without anything. */
    private static EscapadeHouse withOneKeyForTwoLocks() {
        EscapadeHouse house = Rooms.withPlaces(3);
        house.addKeyLock(0, 0, true);
        house.addKeyLock(0, 0, true);
        house.addProp(0, -1, -1);
        house.addDoor(0, 2, 0, true);
        house.addDoor(0, 1, 1, false);
        return house;
    }

    private static void aKeyIsSpentOnTheWrongLock() {
        EscapadeHouse house = withOneKeyForTwoLocks();
        // The key in place or in hands, the lock 0 open in 0 or in the end, the lock 1 open in 0 or in 1.
        check.due("17: states()", 6, house::states);
        check.due("18: deadEnds()", 2, house::deadEnds);
        check.due("19: wayLeft()", 3, house::wayLeft);
        check.due("21: hint()", 20, house::hint);
        check.due("22: isWrong(20)", false, () -> house.isWrong(20));
        check.due("22: isWrong(10), which changes nothing", false, () -> house.isWrong(10));
        check.due("22: isWrong(40), which cannot be done", NOT_DONE, () -> house.isWrong(40));
        check.due("22: isWrong(30)", NO_ARGUMENT, () -> house.isWrong(30));
        house.act(20);
        check.due("19: wayLeft()", 2, house::wayLeft);
        check.due("22: isWrong(40)", false, () -> house.isWrong(40));
        check.due("22: isWrong(41)", true, () -> house.isWrong(41));
        check.due("22: isWrong(41) asks alone", false, () -> house.isOpen(1));
        house.act(41);
        check.due("19: wayLeft() of a dead state", NO_WAY, house::wayLeft);
        check.due("21: hint() in a dead state", NO_WAY, house::hint);
        check.due("20: canIn(5) in a dead state", false, () -> house.canIn(5));
        check.due("22: isWrong(1) from dead to dead", false, () -> house.isWrong(1));
        check.due("17: states() from the beginning still", 6, house::states);
        check.due("18: deadEnds() from the beginning still", 2, house::deadEnds);
        house.reset();
        house.act(20);
        house.act(40);
        house.act(0);
        check.due("19: wayLeft() in the end", 0, house::wayLeft);
        check.due("21: hint() in the end", NO_STATE, house::hint);
        check.due("20: canIn(0) in the end", true, () -> house.canIn(0));
        check.due("22: isWrong(10) in the end", NOT_DONE, () -> house.isWrong(10));
    }

    private static void statesAreCountedOnce() {
        EscapadeHouse house = Rooms.withPlaces(2);
        check.due("17: states() of nothing", 1, house::states);
        house.addSwitch(0);
        check.due("17: states() by a switch", 2, house::states);
        house.addSwitch(0);
        check.due("17: states() by two switches", 4, house::states);
        house.addProp(0, -1, -1);
        check.due("17: states() by a prop, too", 8, house::states);
        house.addProp(0, -1, 3);
        check.due("17: states() by a prop with a fact, too", 32, house::states);
        house.infer(8, 3);
        check.due("17: states() by an inference of what is known", 32, house::states);
        house.addLock('s', 0, 3);
        check.due("17: states() by a lock, too", 64, house::states);
    }

    private static void statesBehindTheEndDoNotComeUp() {
        EscapadeHouse house = Rooms.withPlaces(2);
        house.addPlace();
        house.addDoor(0, 1, -1, false);
        house.addDoor(1, 2, -1, false);
        house.addSwitch(1);
        check.due("17: states()", 2, house::states);
        house.setEnd(2);
        check.due("17: states() with the end behind", 6, house::states);
        check.due("19: wayLeft()", 2, house::wayLeft);
    }

    private static void theLongestTrialIsOfFiveActs() {
        EscapadeHouse house = Rooms.withPlaces(6);
        for (int i = 0; i < 5; i++) {
            house.addDoor(i, i + 1, -1, false);
        }
        house.addLock('c', 0, 0);
        check.due("20: canIn(4)", false, () -> house.canIn(4));
        check.due("20: canIn(5)", true, () -> house.canIn(5));
        check.due("20: canIn(0)", false, () -> house.canIn(0));
        check.due("20: canIn(-1)", NO_ARGUMENT, () -> house.canIn(-1));
        check.due("20: canIn(6)", NO_ARGUMENT, () -> house.canIn(6));
        house.act(0);
        check.due("20: canIn(3) one place on", false, () -> house.canIn(3));
        check.due("20: canIn(4) one place on", true, () -> house.canIn(4));
        house.reset();
        house.addDoor(0, 1, 0, false);
        check.due("19: wayLeft()", 5, house::wayLeft);

        EscapadeHouse longer = Rooms.withPlaces(6);
        longer.addLock('c', 0, 0);
        for (int i = 0; i < 5; i++) {
            longer.addDoor(i, i + 1, 0, false);
        }
        check.due("20: canIn(5) of six", false, () -> longer.canIn(5));
        check.due("19: wayLeft() of six", 6, longer::wayLeft);
        check.due("28: isSound() at six", true, longer::isSound);
        longer.act(40);
        check.due("20: canIn(5) of five", true, () -> longer.canIn(5));
        check.due("28: isSound() at five", true, longer::isSound);
    }

    private static void theFirstActByNumbersIsHinted() {
        EscapadeHouse house = Rooms.withPlaces(4);
        house.addSwitch(0);
        house.addSwitch(0);
        house.addLock('s', 0, 3);
        house.addDoor(0, 1, 0, false);
        house.addDoor(1, 0, 0, false);
        house.addDoor(1, 2, -1, false);
        house.addDoor(2, 3, -1, false);
        house.addDoor(1, 3, -1, true);
        house.addDoor(1, 3, -1, true);
        check.due("21: hint() of two switches", 60, house::hint);
        house.act(61);
        check.due("21: hint() of the other switch", 60, house::hint);
        house.act(60);
        check.due("21: hint() to open", 40, house::hint);
        house.act(40);
        check.due("21: hint() of two doors", 0, house::hint);
        house.act(1);
        check.due("21: hint() of the shorter ways", 4, house::hint);
        check.due("19: wayLeft()", 1, house::wayLeft);
        house.act(2);
        check.due("21: hint() at the longer way", 3, house::hint);
    }

    private static void proofsFollowTheRoom() {
        EscapadeHouse house = Rooms.withPlaces(2);
        check.due("17: states()", 1, house::states);
        check.due("19: wayLeft() without a door", NO_WAY, house::wayLeft);
        check.due("20: canIn(5) without a door", false, () -> house.canIn(5));
        house.addLock('c', 0, 1);
        house.addDoor(0, 1, 0, false);
        check.due("20: canIn(5) without the fact", false, () -> house.canIn(5));
        check.due("18: deadEnds() without the fact", 1, house::deadEnds);
        house.addProp(0, -1, 2);
        check.due("17: states() with another fact", 4, house::states);
        check.due("20: canIn(5) with another fact", false, () -> house.canIn(5));
        house.infer(4, 0);
        check.due("20: canIn(3) by an inference", true, () -> house.canIn(3));
        check.due("19: wayLeft() by an inference", 3, house::wayLeft);
        check.due("21: hint() to look", 10, house::hint);
        house.addKeyLock(0, 0, false);
        house.addDoor(0, 1, 1, false);
        house.addDoor(0, 1, -1, false);
        check.due("19: wayLeft() by a free door", 1, house::wayLeft);
        check.due("21: hint() of a free door", 2, house::hint);
        house.addPlace();
        house.setEnd(2);
        check.due("19: wayLeft() to an end without a door", NO_WAY, house::wayLeft);
        check.due("20: canIn(5) to an end without a door", false, () -> house.canIn(5));
        house.setEnd(0);
        check.due("17: states() in the end at once", 1, house::states);
        check.due("20: canIn(0) in the end at once", true, () -> house.canIn(0));
    }

    private static void allMayBeDead() {
        EscapadeHouse house = Rooms.withPlaces(3);
        house.addSwitch(0);
        house.addDoor(0, 1, -1, false);
        check.due("17: states()", 4, house::states);
        check.due("18: deadEnds()", 4, house::deadEnds);
        check.due("22: isWrong(0) in a dead state", false, () -> house.isWrong(0));
        check.due("27: meanWay() when all are dead", ArithmeticException.class, house::meanWay);
        check.due("28: isSound() in a dead state", true, house::isSound);
    }

    /** Five places, 16 settings of switches, and two props of five fates: in place, in hands, in one of three locks. */
    private static EscapadeHouse withTwoThousandStates() {
        EscapadeHouse house = Rooms.withPlaces(6);
        for (int i = 0; i < 4; i++) {
            house.addDoor(i, i + 1, -1, false);
            house.addSwitch(i);
        }
        for (int i = 0; i < 3; i++) {
            house.addKeyLock(i, 0, true);
            house.addKeyLock(i, 1, true);
        }
        house.addProp(0, -1, -1);
        house.addProp(4, -1, -1);
        return house;
    }

    private static void twoThousandStatesAreGoneThrough() {
        EscapadeHouse house = withTwoThousandStates();
        check.due("17: states() of 2000", 2000, house::states);
        check.due("18: deadEnds() of 2000", 2000, house::deadEnds);
        check.due("19: wayLeft() of 2000", NO_WAY, house::wayLeft);
        check.due("22: isWrong(0) of 2000", false, () -> house.isWrong(0));
        check.due("28: isSound() of 2000", true, house::isSound);
    }

    private static void moreStatesAreNot() {
        EscapadeHouse house = Rooms.of2001States();
        check.due("17: states() of 2001", NOT_DONE, house::states);
        check.due("18: deadEnds() of 2001", NOT_DONE, house::deadEnds);
        check.due("19: wayLeft() of 2001", NOT_DONE, house::wayLeft);
        check.due("21: hint() of 2001", NOT_DONE, house::hint);
        check.due("22: isWrong(0) of 2001", NOT_DONE, () -> house.isWrong(0));
        check.due("22: isWrong(9) of 2001", NO_ARGUMENT, () -> house.isWrong(9));
        check.due("27: meanWay() of 2001", NOT_DONE, house::meanWay);
        check.due("20: canIn(3) of 2001", false, () -> house.canIn(3));
        check.due("20: canIn(4) of 2001", true, () -> house.canIn(4));
        check.due("28: isSound() of 2001", true, house::isSound);
        house.act(0);
        house.act(42);
        house.act(1);
        house.act(2);
        check.due("19: wayLeft() of 2001 in the end", NOT_DONE, house::wayLeft);
        check.due("21: hint() of 2001 in the end", NOT_DONE, house::hint);
        check.due("20: canIn(0) of 2001 in the end", true, () -> house.canIn(0));
        house.reset();
        house.setEnd(0);
        check.due("17: states() when there are few again", 1, house::states);
    }

    /** As many acts at once as can be, and none of them of any use. */
    private static void theLargestRoomsAreAnswered() {
        EscapadeHouse house = Rooms.withPlaces(6);
        for (int i = 0; i < 8; i++) {
            house.addDoor(0, 1 + i % 4, -1, false);
            house.addProp(0, -1, i);
        }
        for (int i = 0; i < 6; i++) {
            house.addLock('c', 0, 0);
        }
        for (int i = 0; i < 4; i++) {
            house.addSwitch(0);
        }
        check.due("20: canIn(5) of many acts", false, () -> house.canIn(5));
        check.due("17: states() of many acts", NOT_DONE, house::states);
        house.act(60);
        check.due("20: canIn(5) of many acts, one act on", false, () -> house.canIn(5));
        check.due("28: isSound() of many acts", true, house::isSound);
    }
}
