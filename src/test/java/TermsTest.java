/** "Terms" of the document, sentence by sentence, with its "Exceptions" and "Clarifications". */
public final class TermsTest {
    private static final Class<?> NO_INDEX = IndexOutOfBoundsException.class;
    private static final Class<?> NO_ARGUMENT = IllegalArgumentException.class;
    private static final Class<?> NO_STATE = IllegalStateException.class;
    private static final Class<?> NOT_DONE = UnsupportedOperationException.class;
    private static final Class<?> NO_WAY = java.util.NoSuchElementException.class;

    private static final Check check = new Check();

    public static void main(String[] args) {
        theGroupBeginsInThePlace0();
        thePlace0IsTheEndAtFirst();
        doorsLeadBackUnlessTheySlam();
        doorsGoByTheirLock();
        theGroupKnowsNothingAtFirst();
        allFactsOfASetAreNeeded();
        inferencesAreMadeAtOnce();
        propsAreSeenInTheirPlaceAlone();
        propsAreSeenInAnOpenBoxAlone();
        propsAreSeenUntilTheyAreTaken();
        locksAreOpenedInTheirPlaceAlone();
        locksStayOpen();
        locksOpenByAPropThatTheGroupHas();
        propsBreakOnlyWhereTheLockSaysSo();
        switchesAreOffAtFirst();
        switchesMustBeJustThoseOfTheSet();
        takingAloneTellsNothing();
        nothingIsDoneInTheEnd();
        anActMayChangeNothing();
        statesGoByAllThatTheyAre();
        sensorsAndCountsAreNoState();
        proofsAreOfTheRoomAsItIs();
        aNearerEndLeavesNothingOfTheProofsBefore();
        aNearerEndLeavesNoWayThatWas();
        theFewestActs();
        wrongActsLeadFromALivingStateToADeadOne();
        theDeskSeesWhatIs();
        theDeskSeesWhatItSawLast();
        withoutPlaces();
        actsGoByTheirNumberAlone();
        actsTakenBackAndASensorThatDoesNotWork();
        check.end();
    }

    private static EscapadeHouse after(EscapadeHouse house, int... acts) {
        for (int act : acts) {
            house.act(act);
        }
        return house;
    }

    private static void theGroupBeginsInThePlace0() {
        for (int places = 0; places <= 6; places++) {
            check.due("place() of " + places, 0, Rooms.withPlaces(places)::place);
        }
        EscapadeHouse house = Rooms.withPlaces(6);
        house.addDoor(0, 5, -1, true);
        house.addDoor(0, 4, -1, true);
        check.due("place() in the last place", 5, after(house, 0)::place);
        house.reset();
        check.due("place() in the last place but one", 4, after(house, 1)::place);
    }

    private static void thePlace0IsTheEndAtFirst() {
        EscapadeHouse house = new EscapadeHouse();
        for (int i = 0; i < 6; i++) {
            house.addPlace();
            check.due("wayLeft() of " + (i + 1) + " places", 0, house::wayLeft);
            check.due("can(10) of " + (i + 1) + " places", false, () -> house.can(10));
        }
        check.due("setEnd(5)", 0, () -> house.setEnd(5));
        check.due("can(10) with another end", true, () -> house.can(10));
        check.due("setEnd(0)", 5, () -> house.setEnd(0));
        check.due("setEnd(0) again", 0, () -> house.setEnd(0));
        check.due("can(10) with the end 0 again", false, () -> house.can(10));
    }

    private static void doorsLeadBackUnlessTheySlam() {
        EscapadeHouse house = Rooms.withPlaces(4);
        house.addDoor(0, 1, -1, false);
        house.addDoor(0, 1, -1, true);
        house.addDoor(1, 0, -1, false);
        house.addDoor(1, 0, -1, true);
        house.addDoor(1, 2, -1, false);
        boolean[] at0 = {true, true, true, false, false};
        boolean[] at1 = {true, false, true, true, true};
        boolean[] at2 = {false, false, false, false, true};
        doorsCanBeGone(house, at0);
        doorsCanBeGone(after(house, 0), at1);
        doorsCanBeGone(after(house, 4), at2);
        doorsCanBeGone(after(house, 4), at1);
        doorsCanBeGone(after(house, 2), at0);
        doorsCanBeGone(after(house, 1), at1);
        doorsCanBeGone(after(house, 3), at0);
        doorsCanBeGone(after(house, 2), at1);
        doorsCanBeGone(after(house, 0), at0);
    }

    private static void doorsCanBeGone(EscapadeHouse house, boolean[] due) {
        for (int i = 0; i < due.length; i++) {
            int door = i;
            check.due("can(" + i + ") at " + house.place(), due[i], () -> house.can(door));
        }
    }

    private static void doorsGoByTheirLock() {
        EscapadeHouse house = Rooms.withPlaces(3);
        house.addLock('c', 0, 0);
        house.addLock('c', 0, 0);
        house.addDoor(0, 1, 0, false);
        house.addDoor(0, 1, 0, true);
        house.addDoor(0, 1, 1, false);
        house.addDoor(1, 0, -1, false);
        doorsCanBeGone(house, new boolean[] {false, false, false, true});
        doorsCanBeGone(after(house, 3), new boolean[] {false, false, false, true});
        doorsCanBeGone(after(house, 3, 40), new boolean[] {true, true, false, true});
        doorsCanBeGone(after(house, 1), new boolean[] {true, false, false, true});
        doorsCanBeGone(after(house, 0), new boolean[] {true, true, false, true});
    }

    private static void theGroupKnowsNothingAtFirst() {
        EscapadeHouse house = Rooms.withPlaces(2);
        for (int i = 0; i < 8; i++) {
            house.addProp(0, -1, i);
        }
        for (int i = 0; i <= 11; i++) {
            int fact = i;
            check.due("knows(" + i + ") at first", false, () -> house.knows(fact));
        }
    }

    private static void allFactsOfASetAreNeeded() {
        for (int missing = 0; missing <= 3; missing++) {
            EscapadeHouse house = Rooms.withPlaces(2);
            for (int i = 0; i < 3; i++) {
                if (i != missing) {
                    house.addProp(0, -1, i);
                }
            }
            house.infer(1 | 2 | 4, 3);
            house.addLock('c', 0, 1 | 2 | 4);
            house.act(10);
            boolean isWhole = missing == 3;
            check.due("knows(3) without " + missing, isWhole, () -> house.knows(3));
            check.due("can(40) without " + missing, isWhole, () -> house.can(40));
        }
    }

    /** The longest chain, in the order that takes most rounds, in the other one, and in a ring. */
    private static void inferencesAreMadeAtOnce() {
        for (int told = 0; told <= 6; told++) {
            EscapadeHouse backwards = Rooms.withPlaces(2);
            EscapadeHouse forwards = Rooms.withPlaces(2);
            EscapadeHouse ring = Rooms.withPlaces(2);
            backwards.addProp(0, -1, told);
            forwards.addProp(0, -1, told);
            ring.addProp(0, -1, told);
            for (int i = 0; i < 6; i++) {
                backwards.infer(1 << 5 - i, 6 - i);
                forwards.infer(1 << i, i + 1);
                ring.infer(1 << i, (i + 5) % 6);
            }
            chainTells("backwards", told, after(backwards, 10), (1 << 7) - (1 << told));
            chainTells("forwards", told, after(forwards, 10), (1 << 7) - (1 << told));
            chainTells("in a ring", told, after(ring, 10), told == 6 ? 1 << 6 : (1 << 6) - 1);
        }
    }

    private static void chainTells(String order, int told, EscapadeHouse house, int known) {
        for (int i = 0; i <= 11; i++) {
            int fact = i;
            check.due("knows(" + i + ") of " + told + " " + order, (known >> i & 1) != 0, () -> house.knows(fact));
        }
        check.due("act(10) again", false, () -> house.act(10));
    }

    private static void propsAreSeenInTheirPlaceAlone() {
        EscapadeHouse house = Rooms.withPlaces(3);
        house.addDoor(0, 1, -1, false);
        house.addProp(0, -1, 0);
        house.addProp(1, -1, 1);
        house.addProp(2, -1, 2);
        house.act(10);
        knowsJust(house, 1);
        check.due("can(20) in its place", true, () -> house.can(20));
        check.due("can(21) elsewhere", false, () -> house.can(21));
        house.act(0);
        house.act(10);
        knowsJust(house, 1 | 2);
        check.due("can(20) elsewhere", false, () -> house.can(20));
        check.due("can(21) in its place", true, () -> house.can(21));
        check.due("can(22) elsewhere", false, () -> house.can(22));
    }

    private static void knowsJust(EscapadeHouse house, int known) {
        for (int i = 0; i <= 11; i++) {
            int fact = i;
            check.due("knows(" + i + ")", (known >> i & 1) != 0, () -> house.knows(fact));
        }
    }

    /** The lock of the box is in another place than the box. */
    private static void propsAreSeenInAnOpenBoxAlone() {
        EscapadeHouse house = Rooms.withPlaces(3);
        house.addDoor(0, 1, -1, false);
        house.addLock('c', 1, 0);
        house.addLock('c', 1, 0);
        house.addProp(0, 0, 0);
        house.addProp(0, 1, 1);
        house.act(10);
        knowsJust(house, 0);
        check.due("act(20) of a shut box", NOT_DONE, () -> house.act(20));
        after(house, 0, 40, 10);
        knowsJust(house, 0);
        after(house, 0, 10);
        knowsJust(house, 1);
        check.due("act(21) of a shut box", NOT_DONE, () -> house.act(21));
        check.due("act(20) of an open box", true, () -> house.act(20));
    }

    private static void propsAreSeenUntilTheyAreTaken() {
        EscapadeHouse house = Rooms.withPlaces(3);
        house.addKeyLock(0, 0, true);
        house.addProp(0, -1, 0);
        house.act(20);
        check.due("act(20) of a taken prop", NOT_DONE, () -> house.act(20));
        house.act(40);
        check.due("act(20) of a broken prop", NOT_DONE, () -> house.act(20));
        house.act(10);
        knowsJust(house, 0);
    }

    private static void locksAreOpenedInTheirPlaceAlone() {
        EscapadeHouse house = Rooms.withPlaces(3);
        house.addDoor(0, 1, -1, false);
        house.addKeyLock(1, 0, false);
        house.addLock('c', 1, 0);
        house.addLock('s', 1, 0);
        house.addProp(0, -1, -1);
        house.act(20);
        for (int i = 0; i < 3; i++) {
            int act = 40 + i;
            check.due("isOpen(" + i + ") at first", false, () -> house.isOpen(act - 40));
            check.due("act(" + act + ") elsewhere", NOT_DONE, () -> house.act(act));
        }
        house.act(0);
        for (int i = 0; i < 3; i++) {
            int act = 40 + i;
            check.due("act(" + act + ") in its place", true, () -> house.act(act));
            check.due("act(" + act + ") when it is open", NOT_DONE, () -> house.act(act));
            check.due("isOpen(" + i + ") then", true, () -> house.isOpen(act - 40));
        }
    }

    private static void locksStayOpen() {
        EscapadeHouse house = Rooms.withPlaces(3);
        house.addDoor(0, 1, -1, false);
        house.addSwitch(0);
        house.addLock('s', 0, 0);
        house.addLock('s', 0, 1);
        after(house, 40, 60, 41, 60, 0, 10);
        check.due("isOpen(0)", true, () -> house.isOpen(0));
        check.due("isOpen(1) when its switch is off again", true, () -> house.isOpen(1));
        house.reset();
        check.due("isOpen(0) when all acts are taken back", false, () -> house.isOpen(0));
        check.due("isOpen(1) when all acts are taken back", false, () -> house.isOpen(1));
    }

    /** The prop of a lock can come later, and is none before. */
    private static void locksOpenByAPropThatTheGroupHas() {
        EscapadeHouse house = Rooms.withPlaces(2);
        house.addKeyLock(0, 1, false);
        house.addProp(0, -1, 0);
        house.act(20);
        check.due("act(40) by another prop", NOT_DONE, () -> house.act(40));
        house.reset();
        house.addProp(0, -1, 0);
        house.act(10);
        check.due("act(40) by a prop in sight", NOT_DONE, () -> house.act(40));
        house.act(21);
        check.due("act(40) by the prop in hands", true, () -> house.act(40));
    }

    private static void propsBreakOnlyWhereTheLockSaysSo() {
        EscapadeHouse house = Rooms.withPlaces(2);
        house.addKeyLock(0, 0, false);
        house.addKeyLock(0, 0, true);
        house.addKeyLock(0, 0, false);
        house.addProp(0, -1, -1);
        after(house, 20, 40);
        check.due("propAt(0) by a lock that breaks nothing", 'h', () -> house.propAt(0));
        house.act(41);
        check.due("propAt(0) by a lock that breaks it", 'x', () -> house.propAt(0));
        check.due("act(42) by what is no more", NOT_DONE, () -> house.act(42));
        house.reset();
        check.due("propAt(0) when all acts are taken back", 'p', () -> house.propAt(0));
    }

    private static void switchesAreOffAtFirst() {
        EscapadeHouse house = Rooms.withPlaces(3);
        house.addDoor(0, 1, -1, false);
        house.addSwitch(0);
        house.addSwitch(1);
        house.addLock('s', 0, 0);
        check.due("can(40) with all off", true, () -> house.can(40));
        check.due("act(61) elsewhere", NOT_DONE, () -> house.act(61));
        check.due("act(60) on", true, () -> house.act(60));
        check.due("checksum() on", 1L, house::checksum);
        check.due("act(60) off", true, () -> house.act(60));
        check.due("checksum() off", 0L, house::checksum);
        after(house, 0);
        check.due("act(60) elsewhere", NOT_DONE, () -> house.act(60));
        check.due("act(61) in its place", true, () -> house.act(61));
    }

    private static void switchesMustBeJustThoseOfTheSet() {
        EscapadeHouse house = Rooms.withPlaces(2);
        house.addSwitch(0);
        house.addSwitch(0);
        house.addLock('s', 0, 1);
        house.addLock('s', 0, 1 | 2);
        house.addLock('s', 0, 4);
        house.act(60);
        check.due("can(40) with just its switch", true, () -> house.can(40));
        check.due("can(41) with one of two", false, () -> house.can(41));
        house.act(61);
        check.due("can(40) with another one, too", false, () -> house.can(40));
        check.due("can(41) with both", true, () -> house.can(41));
        check.due("can(42) of a switch that was not added", false, () -> house.can(42));
    }

    private static void takingAloneTellsNothing() {
        EscapadeHouse house = Rooms.withPlaces(3);
        house.addDoor(0, 1, -1, false);
        house.addProp(0, -1, 4);
        after(house, 20, 0);
        knowsJust(house, 0);
        house.act(10);
        knowsJust(house, 16);
    }

    private static EscapadeHouse withAllInTheEnd() {
        EscapadeHouse house = Rooms.withPlaces(2);
        house.addDoor(0, 1, -1, false);
        house.addDoor(1, 0, -1, false);
        house.addProp(1, -1, 0);
        house.addKeyLock(1, 1, false);
        house.addLock('c', 1, 0);
        house.addLock('s', 1, 0);
        house.addProp(0, -1, -1);
        house.addSwitch(1);
        return house;
    }

    private static void nothingIsDoneInTheEnd() {
        EscapadeHouse house = after(withAllInTheEnd(), 21, 0);
        for (int act : Reference.allActs()) {
            check.due("can(" + act + ") in the end", false, () -> house.can(act));
            check.due("act(" + act + ") in the end", NOT_DONE, () -> house.act(act));
            check.due("isWrong(" + act + ") in the end", NOT_DONE, () -> house.isWrong(act));
        }
        check.due("canIn(0) in the end", true, () -> house.canIn(0));
        check.due("wayLeft() in the end", 0, house::wayLeft);
        check.due("reset() from the end", 2, house::reset);
        check.due("can(0) out of the end", true, () -> house.can(0));
    }

    private static void anActMayChangeNothing() {
        EscapadeHouse house = Rooms.withPlaces(2);
        house.addProp(0, -1, 0);
        check.due("act(10)", true, () -> house.act(10));
        check.due("can(10) again", true, () -> house.can(10));
        check.due("isWrong(10) again", false, () -> house.isWrong(10));
        check.due("act(10) again", false, () -> house.act(10));
        check.due("reset() counts it", 2, house::reset);

        EscapadeHouse bare = Rooms.withPlaces(2);
        check.due("act(10) at nothing", false, () -> bare.act(10));
        check.due("addPlace() after it", NO_STATE, bare::addPlace);
        check.due("reset() of it", 1, bare::reset);
        check.due("addPlace() when it is taken back", 2, bare::addPlace);
        check.due("act(10) after a reset", false, () -> bare.act(10));
        check.due("addPlace() after one act more", NO_STATE, bare::addPlace);
        check.due("reset() of one act more", 1, bare::reset);
        check.due("reset() of none", 0, bare::reset);
    }

    private static void statesGoByAllThatTheyAre() {
        EscapadeHouse places = Rooms.withPlaces(3);
        places.addDoor(0, 1, -1, true);
        check.due("states() by the place", 2, places::states);

        EscapadeHouse hands = Rooms.withPlaces(2);
        hands.addProp(0, -1, -1);
        check.due("states() by what the group has", 2, hands::states);

        EscapadeHouse known = Rooms.withPlaces(2);
        known.addProp(0, -1, 0);
        check.due("states() by what it knows, too", 4, known::states);

        EscapadeHouse broken = Rooms.withPlaces(2);
        broken.addProp(0, -1, -1);
        broken.addKeyLock(0, 0, true);
        broken.addKeyLock(0, 0, true);
        check.due("states() by a prop that breaks in one of two locks", 4, broken::states);

        EscapadeHouse whole = Rooms.withPlaces(2);
        whole.addProp(0, -1, -1);
        whole.addKeyLock(0, 0, false);
        whole.addKeyLock(0, 0, false);
        check.due("states() by a prop that does not break", 5, whole::states);

        EscapadeHouse open = Rooms.withPlaces(2);
        open.addLock('c', 0, 0);
        check.due("states() by a lock", 2, open::states);

        EscapadeHouse on = Rooms.withPlaces(2);
        on.addSwitch(0);
        check.due("states() by a switch", 2, on::states);
    }

    private static void sensorsAndCountsAreNoState() {
        EscapadeHouse house = Rooms.withPlaces(2);
        house.addLock('c', 0, 0);
        house.setSensor(0, false);
        check.due("states() without its sensor", 2, house::states);
        check.due("checksum() without its sensor", 0L, house::checksum);
        after(house, 10, 10);
        check.due("states() after acts", 2, house::states);
        check.due("checksum() after acts", 0L, house::checksum);
    }

    /** Each call that adds something, after the proofs of the room without it were asked for. */
    private static void proofsAreOfTheRoomAsItIs() {
        EscapadeHouse house = Rooms.withPlaces(3);
        proofsAre(house, 1, NO_WAY);
        house.addLock('c', 0, 1);
        proofsAre(house, 1, NO_WAY);
        house.addDoor(0, 2, 0, true);
        proofsAre(house, 1, NO_WAY);
        house.addProp(0, -1, 5);
        proofsAre(house, 4, NO_WAY);
        house.infer(1 << 5, 0);
        proofsAre(house, 8, 3);
        house.addSwitch(0);
        proofsAre(house, 16, 3);
        house.addLock('s', 0, 1);
        proofsAre(house, 32, 3);
        house.addDoor(0, 2, 1, true);
        proofsAre(house, 40, 3);
        house.addKeyLock(0, 0, false);
        proofsAre(house, 60, 3);
        house.addDoor(0, 1, -1, true);
        proofsAre(house, 96, 3);
        house.setEnd(1);
        proofsAre(house, 96, 1);
    }

    /** A chain of four places: the nearer the end, the fewer states come up. */
    private static void aNearerEndLeavesNothingOfTheProofsBefore() {
        EscapadeHouse house = Rooms.withPlaces(5);
        for (int i = 0; i < 3; i++) {
            house.addDoor(i, i + 1, -1, true);
        }
        proofsAre(house, 4, NO_WAY);
        check.due("deadEnds()", 4, house::deadEnds);
        for (int end = 3; end >= 0; end--) {
            house.setEnd(end);
            proofsAre(house, end + 1, end);
            check.due("deadEnds() to " + end, 0, house::deadEnds);
            check.due("meanWay() to " + end, end / 2.0, house::meanWay);
        }
        house.setEnd(4);
        proofsAre(house, 4, NO_WAY);
        house.setEnd(3);
        proofsAre(house, 4, 3);
        house.setEnd(1);
        proofsAre(house, 2, 1);
        check.due("meanWay() to 1 after 3", 0.5, house::meanWay);
    }

    /** What was the way to the end is dead when another place is the end. */
    private static void aNearerEndLeavesNoWayThatWas() {
        EscapadeHouse house = Rooms.withPlaces(5);
        house.addDoor(0, 1, -1, true);
        house.addDoor(1, 2, -1, true);
        house.addDoor(0, 3, -1, true);
        house.addDoor(3, 4, -1, true);
        proofsAre(house, 5, 2);
        check.due("deadEnds()", 2, house::deadEnds);
        check.due("meanWay()", (2 + 1 + 0) / 3.0, house::meanWay);
        check.due("isWrong(0)", true, () -> house.isWrong(0));
        house.setEnd(1);
        proofsAre(house, 4, 1);
        check.due("deadEnds() to 1", 2, house::deadEnds);
        check.due("meanWay() to 1", (1 + 0) / 2.0, house::meanWay);
        check.due("isWrong(0) to 1", false, () -> house.isWrong(0));
        check.due("isWrong(2) to 1", true, () -> house.isWrong(2));
        check.due("wayLeft() where the way was", NO_WAY, after(house, 2)::wayLeft);
    }

    private static void proofsAre(EscapadeHouse house, int states, Object way) {
        check.due("states()", states, house::states);
        check.due("wayLeft()", way, house::wayLeft);
        check.due("canIn(5)", !way.equals(NO_WAY), () -> house.canIn(5));
        check.due("isSound()", true, house::isSound);
    }

    /** A way of four acts by the first door, and one of three by looking. */
    private static void theFewestActs() {
        EscapadeHouse house = Rooms.withPlaces(5);
        house.addDoor(0, 1, -1, true);
        house.addDoor(1, 2, -1, true);
        house.addDoor(2, 3, -1, true);
        house.addDoor(3, 4, -1, true);
        house.addLock('c', 0, 1);
        house.addDoor(0, 4, 0, true);
        house.addProp(0, -1, 0);
        check.due("wayLeft()", 3, house::wayLeft);
        check.due("hint()", 10, house::hint);
        check.due("wayLeft() on the longer way", 3, after(house, 0)::wayLeft);
        check.due("hint() on the longer way", 1, house::hint);
    }

    private static void wrongActsLeadFromALivingStateToADeadOne() {
        EscapadeHouse house = Rooms.withPlaces(4);
        house.addDoor(0, 1, -1, true);
        house.addDoor(1, 2, -1, false);
        house.addDoor(0, 3, -1, true);
        check.due("isWrong(0) into a dead state", true, () -> house.isWrong(0));
        check.due("isWrong(2) into the end", false, () -> house.isWrong(2));
        check.due("isWrong(10) on the spot", false, () -> house.isWrong(10));
        check.due("place() when it was asked alone", 0, house::place);
        house.act(0);
        check.due("isWrong(1) from dead to dead", false, () -> house.isWrong(1));
        check.due("isWrong(10) on a dead spot", false, () -> house.isWrong(10));
        check.due("wayLeft() of a dead state", NO_WAY, house::wayLeft);
        check.due("deadEnds()", 2, house::deadEnds);
    }

    private static void theDeskSeesWhatIs() {
        EscapadeHouse house = Rooms.withPlaces(2);
        house.addLock('c', 0, 0);
        check.due("seen(0) at first", 's', () -> house.seen(0));
        check.due("setSensor(0, true), which works at first", true, () -> house.setSensor(0, true));
        check.due("seen(0) when it is open", 'o', () -> after(house, 40).seen(0));
        house.reset();
        check.due("seen(0) when all acts are taken back", 's', () -> house.seen(0));
    }

    private static void theDeskSeesWhatItSawLast() {
        EscapadeHouse house = Rooms.withPlaces(2);
        house.addLock('c', 0, 0);
        check.due("setSensor(0, false)", true, () -> house.setSensor(0, false));
        check.due("seen(0), shut when it was seen last", 's', () -> after(house, 40).seen(0));
        check.due("isSound() with a sensor that does not work", true, house::isSound);
        check.due("setSensor(0, false) again", false, () -> house.setSensor(0, false));
        check.due("seen(0) still", 's', () -> house.seen(0));
        check.due("setSensor(0, true)", false, () -> house.setSensor(0, true));
        check.due("seen(0) when it works again", 'o', () -> house.seen(0));
        check.due("setSensor(0, true) again", true, () -> house.setSensor(0, true));
    }

    private static void withoutPlaces() {
        EscapadeHouse house = new EscapadeHouse();
        check.due("place()", 0, house::place);
        check.due("wayLeft() in the end", 0, house::wayLeft);
        check.due("hint() in the end", NO_STATE, house::hint);
        check.due("states()", 1, house::states);
        check.due("deadEnds()", 0, house::deadEnds);
        check.due("meanWay()", 0.0, house::meanWay);
        check.due("isSound()", true, house::isSound);
        for (int i = 0; i <= 5; i++) {
            int acts = i;
            check.due("canIn(" + i + ")", true, () -> house.canIn(acts));
        }
        for (int act : Reference.allActs()) {
            check.due("can(" + act + ")", false, () -> house.can(act));
            check.due("act(" + act + ")", NOT_DONE, () -> house.act(act));
        }
        check.due("setEnd(0)", NO_INDEX, () -> house.setEnd(0));
        check.due("infer(1, 1), which needs no place", 1, () -> house.infer(1, 1));
        check.due("addPlace()", 0, house::addPlace);
        check.due("setEnd(0)", 0, () -> house.setEnd(0));
    }

    private static void actsGoByTheirNumberAlone() {
        EscapadeHouse house = Rooms.withPlaces(2);
        for (int act : new int[] {0, 7, 20, 27, 40, 45, 60, 63}) {
            check.due("can(" + act + ") of nothing", false, () -> house.can(act));
            check.due("act(" + act + ") of nothing", NOT_DONE, () -> house.act(act));
            check.due("isWrong(" + act + ") of nothing", NOT_DONE, () -> house.isWrong(act));
        }
        for (int act : new int[] {-1, 8, 9, 11, 19, 28, 39, 46, 59, 64}) {
            check.due("can(" + act + ")", NO_ARGUMENT, () -> house.can(act));
            check.due("act(" + act + ")", NO_ARGUMENT, () -> house.act(act));
            check.due("isWrong(" + act + ")", NO_ARGUMENT, () -> house.isWrong(act));
        }
    }

    private static void actsTakenBackAndASensorThatDoesNotWork() {
        EscapadeHouse house = Rooms.withPlaces(2);
        for (int i = 0; i < 3; i++) {
            house.addLock('c', 0, 0);
        }
        after(house, 40, 41);
        house.setSensor(0, false);
        house.setSensor(2, false);
        after(house, 42);
        house.reset();
        check.due("seen(0), open when it was seen last", 'o', () -> house.seen(0));
        check.due("seen(1), whose sensor works", 's', () -> house.seen(1));
        check.due("seen(2), shut when it was seen last", 's', () -> house.seen(2));
        check.due("isOpen(0)", false, () -> house.isOpen(0));
        check.due("isSound()", true, house::isSound);
        check.due("setSensor(0, true), which does not work by a reset", false, () -> house.setSensor(0, true));
        check.due("seen(0) when it works again", 's', () -> house.seen(0));
    }
}
