/** Promises 1 to 9: a new object and how the room is made. */
public final class RoomTest {
    private static final Class<?> NO_INDEX = IndexOutOfBoundsException.class;
    private static final Class<?> NO_ARGUMENT = IllegalArgumentException.class;
    private static final Class<?> NO_STATE = IllegalStateException.class;
    private static final Class<?> NOT_DONE = UnsupportedOperationException.class;

    private static final Check check = new Check();

    public static void main(String[] args) {
        aNewHouseHasNothing();
        placesAreAdded();
        theEndIsSet();
        doorsAreAdded();
        doorsRefuse();
        propsAreAdded();
        propsRefuse();
        keyLocksAreAdded();
        keyLocksRefuse();
        locksAreAdded();
        locksRefuse();
        switchesAreAdded();
        inferencesAreAdded();
        nothingIsAddedAfterActs();
        refusedCallsChangeNothing();
        check.end();
    }

    private static EscapadeHouse withPlaces(int places) {
        EscapadeHouse house = new EscapadeHouse();
        for (int i = 0; i < places; i++) {
            house.addPlace();
        }
        return house;
    }

    private static EscapadeHouse afterOneAct() {
        EscapadeHouse house = withPlaces(2);
        house.setEnd(1);
        house.act(10);
        return house;
    }

    private static void aNewHouseHasNothing() {
        EscapadeHouse house = new EscapadeHouse();
        check.due("1: place()", 0, house::place);
        check.due("1: states()", 1, house::states);
        check.due("1: deadEnds()", 0, house::deadEnds);
        check.due("1: wayLeft()", 0, house::wayLeft);
        check.due("1: hint()", NO_STATE, house::hint);
        check.due("1: canIn(0)", true, () -> house.canIn(0));
        check.due("1: checksum()", 0L, house::checksum);
        check.due("1: knownShare()", 0f, house::knownShare);
        check.due("1: meanWay()", 0.0, house::meanWay);
        check.due("1: isSound()", true, house::isSound);
        check.due("1: reset()", 0, house::reset);
        check.due("1: setEnd(0)", NO_INDEX, () -> house.setEnd(0));
        check.due("1: propAt(0)", NO_INDEX, () -> house.propAt(0));
        check.due("1: isOpen(0)", NO_INDEX, () -> house.isOpen(0));
        check.due("1: seen(0)", NO_INDEX, () -> house.seen(0));
        for (int act : new int[] {0, 7, 10, 20, 27, 40, 45, 60, 63}) {
            check.due("1: can(" + act + ")", false, () -> house.can(act));
            check.due("1: act(" + act + ")", NOT_DONE, () -> house.act(act));
        }
        for (int fact = 0; fact < 12; fact++) {
            int asked = fact;
            check.due("1: knows(" + fact + ")", false, () -> house.knows(asked));
        }
    }

    private static void placesAreAdded() {
        EscapadeHouse house = new EscapadeHouse();
        for (int i = 0; i < 6; i++) {
            check.due("2: addPlace()", i, house::addPlace);
        }
        check.due("2: addPlace() of a seventh", NOT_DONE, house::addPlace);
        EscapadeHouse single = withPlaces(1);
        check.due("2: the only place is the end", false, () -> single.can(10));
    }

    private static void theEndIsSet() {
        EscapadeHouse house = withPlaces(3);
        check.due("3: setEnd(2)", 0, () -> house.setEnd(2));
        check.due("3: setEnd(1)", 2, () -> house.setEnd(1));
        check.due("3: setEnd(3)", NO_INDEX, () -> house.setEnd(3));
        check.due("3: setEnd(-1)", NO_INDEX, () -> house.setEnd(-1));
        check.due("3: setEnd(1) again", 1, () -> house.setEnd(1));
        check.due("3: can(10) out of the end", true, () -> house.can(10));
        check.due("3: setEnd(0)", 1, () -> house.setEnd(0));
        check.due("3: can(10) in the end", false, () -> house.can(10));
    }

    private static void doorsAreAdded() {
        EscapadeHouse house = withPlaces(3);
        house.setEnd(2);
        house.addLock('c', 0, 1);
        check.due("4: addDoor", 0, () -> house.addDoor(0, 1, -1, false));
        check.due("4: addDoor, slamming", 1, () -> house.addDoor(1, 0, -1, true));
        check.due("4: addDoor with a lock", 2, () -> house.addDoor(0, 1, 0, false));
        check.due("4: can(0)", true, () -> house.can(0));
        check.due("4: can(1) against a slamming door", false, () -> house.can(1));
        check.due("4: can(2) through a shut lock", false, () -> house.can(2));
        check.due("4: can(3), no such door", false, () -> house.can(3));
        house.act(0);
        check.due("4: can(0) back", true, () -> house.can(0));
        check.due("4: can(1) along a slamming door", true, () -> house.can(1));
        house.reset();
        for (int i = 3; i < 8; i++) {
            check.due("4: addDoor", i, () -> house.addDoor(0, 2, -1, true));
        }
        check.due("4: addDoor of a ninth", NOT_DONE, () -> house.addDoor(0, 2, -1, true));
    }

    private static void doorsRefuse() {
        EscapadeHouse house = withPlaces(2);
        check.due("4: addDoor(2, 0)", NO_INDEX, () -> house.addDoor(2, 0, -1, false));
        check.due("4: addDoor(0, 2)", NO_INDEX, () -> house.addDoor(0, 2, -1, false));
        check.due("4: addDoor(-1, 0)", NO_INDEX, () -> house.addDoor(-1, 0, -1, false));
        check.due("4: addDoor(0, -1)", NO_INDEX, () -> house.addDoor(0, -1, -1, false));
        check.due("4: addDoor, lock 0", NO_INDEX, () -> house.addDoor(0, 1, 0, false));
        check.due("4: addDoor, lock -2", NO_INDEX, () -> house.addDoor(0, 1, -2, false));
        check.due("4: addDoor(1, 1)", NO_ARGUMENT, () -> house.addDoor(1, 1, -1, false));
        check.due("4: addDoor(1, 1), lock 0", NO_INDEX, () -> house.addDoor(1, 1, 0, false));
        check.due("4: addDoor(2, 2)", NO_INDEX, () -> house.addDoor(2, 2, -1, false));
        for (int i = 0; i < 8; i++) {
            house.addDoor(0, 1, -1, false);
        }
        check.due("4: addDoor(1, 1) when full", NO_ARGUMENT, () -> house.addDoor(1, 1, -1, false));
        house.setEnd(1);
        house.act(10);
        check.due("4: addDoor when full, after an act", NO_STATE, () -> house.addDoor(0, 1, -1, false));
        check.due("4: addDoor(1, 1) after an act", NO_ARGUMENT, () -> house.addDoor(1, 1, -1, false));
        check.due("4: addDoor(0, 2) after an act", NO_INDEX, () -> house.addDoor(0, 2, -1, false));
    }

    private static void propsAreAdded() {
        EscapadeHouse house = withPlaces(2);
        house.setEnd(1);
        house.addLock('s', 0, 0);
        check.due("5: addProp without a box", 0, () -> house.addProp(0, -1, -1));
        check.due("5: addProp in a box", 1, () -> house.addProp(0, 0, 11));
        check.due("5: addProp elsewhere", 2, () -> house.addProp(1, -1, 0));
        check.due("5: can(20)", true, () -> house.can(20));
        check.due("5: can(21) in a shut box", false, () -> house.can(21));
        check.due("5: can(22) elsewhere", false, () -> house.can(22));
        check.due("5: can(23), no such prop", false, () -> house.can(23));
        for (int i = 3; i < 8; i++) {
            check.due("5: addProp", i, () -> house.addProp(0, -1, 3));
        }
        check.due("5: addProp of a ninth", NOT_DONE, () -> house.addProp(0, -1, 3));
    }

    private static void propsRefuse() {
        EscapadeHouse house = withPlaces(2);
        house.setEnd(1);
        check.due("5: addProp(2)", NO_INDEX, () -> house.addProp(2, -1, 0));
        check.due("5: addProp(-1)", NO_INDEX, () -> house.addProp(-1, -1, 0));
        check.due("5: addProp, lock 0", NO_INDEX, () -> house.addProp(0, 0, 0));
        check.due("5: addProp, lock -2", NO_INDEX, () -> house.addProp(0, -2, 0));
        check.due("5: addProp, fact 12", NO_ARGUMENT, () -> house.addProp(0, -1, 12));
        check.due("5: addProp, fact -2", NO_ARGUMENT, () -> house.addProp(0, -1, -2));
        check.due("5: addProp(2), fact 12", NO_INDEX, () -> house.addProp(2, -1, 12));
        check.due("5: addProp, lock 0, fact 12", NO_INDEX, () -> house.addProp(0, 0, 12));
        for (int i = 0; i < 8; i++) {
            house.addProp(0, -1, -1);
        }
        check.due("5: addProp, fact 12, when full", NO_ARGUMENT, () -> house.addProp(0, -1, 12));
        house.act(10);
        check.due("5: addProp when full, after an act", NO_STATE, () -> house.addProp(0, -1, 0));
        check.due("5: addProp, fact 12, after an act", NO_ARGUMENT, () -> house.addProp(0, -1, 12));
    }

    private static void keyLocksAreAdded() {
        EscapadeHouse house = withPlaces(2);
        house.setEnd(1);
        check.due("6: addKeyLock before its prop", 0, () -> house.addKeyLock(0, 0, true));
        check.due("6: addKeyLock", 1, () -> house.addKeyLock(0, 0, false));
        check.due("6: addKeyLock elsewhere", 2, () -> house.addKeyLock(1, 0, false));
        check.due("6: can(40) without the prop", false, () -> house.can(40));
        house.addProp(0, -1, -1);
        house.act(20);
        check.due("6: can(40)", true, () -> house.can(40));
        check.due("6: can(42) elsewhere", false, () -> house.can(42));
        check.due("6: can(43), no such lock", false, () -> house.can(43));
        house.act(41);
        check.due("6: propAt(0) when it does not break", 'h', () -> house.propAt(0));
        house.act(40);
        check.due("6: propAt(0) when it breaks", 'x', () -> house.propAt(0));
        house.reset();
        check.due("6: addKeyLock(0, 7)", 3, () -> house.addKeyLock(0, 7, true));
        check.due("6: addKeyLock", 4, () -> house.addKeyLock(0, 7, true));
        check.due("6: addKeyLock", 5, () -> house.addKeyLock(0, 7, true));
        check.due("6: addKeyLock of a seventh", NOT_DONE, () -> house.addKeyLock(0, 7, true));
    }

    private static void keyLocksRefuse() {
        EscapadeHouse house = withPlaces(2);
        house.setEnd(1);
        check.due("6: addKeyLock(2, 0)", NO_INDEX, () -> house.addKeyLock(2, 0, true));
        check.due("6: addKeyLock(-1, 0)", NO_INDEX, () -> house.addKeyLock(-1, 0, true));
        check.due("6: addKeyLock(0, 8)", NO_ARGUMENT, () -> house.addKeyLock(0, 8, true));
        check.due("6: addKeyLock(0, -1)", NO_ARGUMENT, () -> house.addKeyLock(0, -1, true));
        check.due("6: addKeyLock(2, 8)", NO_INDEX, () -> house.addKeyLock(2, 8, true));
        for (int i = 0; i < 6; i++) {
            house.addKeyLock(0, 0, true);
        }
        check.due("6: addKeyLock(0, 8) when full", NO_ARGUMENT, () -> house.addKeyLock(0, 8, true));
        house.act(10);
        check.due("6: addKeyLock when full, after an act", NO_STATE, () -> house.addKeyLock(0, 0, true));
        check.due("6: addKeyLock(0, 8) after an act", NO_ARGUMENT, () -> house.addKeyLock(0, 8, true));
    }

    private static void locksAreAdded() {
        EscapadeHouse house = withPlaces(2);
        house.setEnd(1);
        house.addProp(0, -1, 11);
        house.addSwitch(0);
        house.addSwitch(0);
        check.due("7: addLock('c')", 0, () -> house.addLock('c', 0, 1 << 11));
        check.due("7: addLock('s')", 1, () -> house.addLock('s', 0, 2));
        check.due("7: addLock('c'), no facts", 2, () -> house.addLock('c', 0, 0));
        check.due("7: addLock('s'), no switches", 3, () -> house.addLock('s', 0, 0));
        check.due("7: can(40) not knowing", false, () -> house.can(40));
        check.due("7: can(41) with switches off", false, () -> house.can(41));
        check.due("7: can(42)", true, () -> house.can(42));
        check.due("7: can(43)", true, () -> house.can(43));
        house.act(10);
        house.act(61);
        check.due("7: can(40) knowing", true, () -> house.can(40));
        check.due("7: can(41) with just its switch on", true, () -> house.can(41));
        check.due("7: can(43) with a switch on", false, () -> house.can(43));
        house.act(60);
        check.due("7: can(41) with another switch on, too", false, () -> house.can(41));
        house.reset();
        check.due("7: addLock('c'), all facts", 4, () -> house.addLock('c', 0, 4095));
        check.due("7: addLock('s'), all switches", 5, () -> house.addLock('s', 0, 15));
        check.due("7: addLock of a seventh", NOT_DONE, () -> house.addLock('c', 0, 1));
    }

    private static void locksRefuse() {
        EscapadeHouse house = withPlaces(2);
        house.setEnd(1);
        check.due("7: addLock('k')", NO_ARGUMENT, () -> house.addLock('k', 0, 1));
        check.due("7: addLock('C')", NO_ARGUMENT, () -> house.addLock('C', 0, 1));
        check.due("7: addLock('c', 4096)", NO_ARGUMENT, () -> house.addLock('c', 0, 4096));
        check.due("7: addLock('c', -1)", NO_ARGUMENT, () -> house.addLock('c', 0, -1));
        check.due("7: addLock('c', least)", NO_ARGUMENT, () -> house.addLock('c', 0, Integer.MIN_VALUE));
        check.due("7: addLock('s', 16)", NO_ARGUMENT, () -> house.addLock('s', 0, 16));
        check.due("7: addLock('s', -1)", NO_ARGUMENT, () -> house.addLock('s', 0, -1));
        check.due("7: addLock('c') at 2", NO_INDEX, () -> house.addLock('c', 2, 1));
        check.due("7: addLock('s') at -1", NO_INDEX, () -> house.addLock('s', -1, 1));
        check.due("7: addLock('k') at 2", NO_ARGUMENT, () -> house.addLock('k', 2, 1));
        check.due("7: addLock('s', 16) at 2", NO_ARGUMENT, () -> house.addLock('s', 2, 16));
        for (int i = 0; i < 6; i++) {
            house.addLock('s', 0, 1);
        }
        check.due("7: addLock('s') at 2 when full", NO_INDEX, () -> house.addLock('s', 2, 1));
        house.act(10);
        check.due("7: addLock when full, after an act", NO_STATE, () -> house.addLock('s', 0, 1));
        check.due("7: addLock('s') at 2 after an act", NO_INDEX, () -> house.addLock('s', 2, 1));
        check.due("7: addLock('s', 16) after an act", NO_ARGUMENT, () -> house.addLock('s', 0, 16));
    }

    private static void switchesAreAdded() {
        EscapadeHouse house = withPlaces(2);
        house.setEnd(1);
        check.due("8: addSwitch(0)", 0, () -> house.addSwitch(0));
        check.due("8: addSwitch(1)", 1, () -> house.addSwitch(1));
        check.due("8: can(60)", true, () -> house.can(60));
        check.due("8: can(61) elsewhere", false, () -> house.can(61));
        check.due("8: can(62), no such switch", false, () -> house.can(62));
        check.due("8: addSwitch(2)", NO_INDEX, () -> house.addSwitch(2));
        check.due("8: addSwitch(-1)", NO_INDEX, () -> house.addSwitch(-1));
        check.due("8: addSwitch(0)", 2, () -> house.addSwitch(0));
        check.due("8: addSwitch(0)", 3, () -> house.addSwitch(0));
        check.due("8: addSwitch of a fifth", NOT_DONE, () -> house.addSwitch(0));
        check.due("8: addSwitch(2) when full", NO_INDEX, () -> house.addSwitch(2));
        house.act(60);
        check.due("8: addSwitch when full, after an act", NO_STATE, () -> house.addSwitch(0));
        check.due("8: addSwitch(2) after an act", NO_INDEX, () -> house.addSwitch(2));
    }

    private static void inferencesAreAdded() {
        EscapadeHouse house = withPlaces(2);
        house.setEnd(1);
        house.addProp(0, -1, 0);
        house.addProp(0, -1, 1);
        check.due("9: infer(8, 4)", 1, () -> house.infer(1 << 3, 4));
        check.due("9: infer(3, 3)", 2, () -> house.infer(1 | 2, 3));
        check.due("9: infer(33, 6)", 3, () -> house.infer(1 | 1 << 5, 6));
        house.act(10);
        check.due("9: knows(3)", true, () -> house.knows(3));
        check.due("9: knows(4) by an inference from an inference", true, () -> house.knows(4));
        check.due("9: knows(6) by a part of the set", false, () -> house.knows(6));
        house.reset();
        check.due("9: infer(0, 0)", NO_ARGUMENT, () -> house.infer(0, 0));
        check.due("9: infer(4096, 0)", NO_ARGUMENT, () -> house.infer(4096, 0));
        check.due("9: infer(-1, 0)", NO_ARGUMENT, () -> house.infer(-1, 0));
        check.due("9: infer(1, 12)", NO_ARGUMENT, () -> house.infer(1, 12));
        check.due("9: infer(1, -1)", NO_ARGUMENT, () -> house.infer(1, -1));
        check.due("9: infer(4095, 11)", 4, () -> house.infer(4095, 11));
        check.due("9: infer(1, 0), of its own set", 5, () -> house.infer(1, 0));
        check.due("9: infer(1, 1)", 6, () -> house.infer(1, 1));
        check.due("9: infer of a seventh", NOT_DONE, () -> house.infer(1, 2));
        check.due("9: infer(0, 0) when full", NO_ARGUMENT, () -> house.infer(0, 0));
        house.act(10);
        check.due("9: infer when full, after an act", NO_STATE, () -> house.infer(1, 2));
        check.due("9: infer(1, 12) after an act", NO_ARGUMENT, () -> house.infer(1, 12));
    }

    private static void nothingIsAddedAfterActs() {
        EscapadeHouse house = afterOneAct();
        check.due("2: addPlace() after an act", NO_STATE, house::addPlace);
        check.due("3: setEnd(0) after an act", NO_STATE, () -> house.setEnd(0));
        check.due("3: setEnd(2) after an act", NO_INDEX, () -> house.setEnd(2));
        check.due("4: addDoor after an act", NO_STATE, () -> house.addDoor(0, 1, -1, false));
        check.due("5: addProp after an act", NO_STATE, () -> house.addProp(0, -1, 0));
        check.due("6: addKeyLock after an act", NO_STATE, () -> house.addKeyLock(0, 0, false));
        check.due("7: addLock after an act", NO_STATE, () -> house.addLock('c', 0, 1));
        check.due("8: addSwitch after an act", NO_STATE, () -> house.addSwitch(0));
        check.due("9: infer after an act", NO_STATE, () -> house.infer(1, 1));
        check.due("11: reset()", 1, house::reset);
        check.due("2: addPlace() after a reset", 2, house::addPlace);
        check.due("3: setEnd(0) after a reset", 1, () -> house.setEnd(0));

        EscapadeHouse full = withPlaces(6);
        full.setEnd(5);
        full.act(10);
        check.due("2: addPlace() when full, after an act", NO_STATE, full::addPlace);
    }

    private static void refusedCallsChangeNothing() {
        EscapadeHouse house = withPlaces(2);
        house.setEnd(1);
        Check.answerOf(() -> house.setEnd(2));
        Check.answerOf(() -> house.addDoor(0, 1, 0, false));
        Check.answerOf(() -> house.addDoor(0, 0, -1, false));
        Check.answerOf(() -> house.addProp(0, -1, 12));
        Check.answerOf(() -> house.addKeyLock(0, 8, false));
        Check.answerOf(() -> house.addLock('c', 0, 4096));
        Check.answerOf(() -> house.addSwitch(2));
        Check.answerOf(() -> house.infer(1, 12));
        Check.answerOf(() -> house.act(11));
        Check.answerOf(() -> house.act(0));
        check.due("addDoor after refused ones", 0, () -> house.addDoor(0, 1, -1, false));
        check.due("addProp after refused ones", 0, () -> house.addProp(0, -1, 11));
        check.due("addKeyLock after refused ones", 0, () -> house.addKeyLock(0, 7, false));
        check.due("addSwitch after refused ones", 0, () -> house.addSwitch(0));
        check.due("infer after refused ones", 1, () -> house.infer(1, 11));
        check.due("setEnd after refused ones", 1, () -> house.setEnd(1));
        check.due("addPlace after refused ones", 2, house::addPlace);
        check.due("reset after refused acts", 0, house::reset);
    }
}
