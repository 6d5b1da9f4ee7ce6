/**
 * Every number that the document names: the last that is allowed and the first that is refused, on both sides where
 * there are two. What a refused call leaves unchanged stands in AddingRefusedTest and AskingRefusedTest.
 */
public final class BoundTest {
    private static final Class<?> NO_INDEX = IndexOutOfBoundsException.class;
    private static final Class<?> NO_ARGUMENT = IllegalArgumentException.class;
    private static final Class<?> NOT_DONE = UnsupportedOperationException.class;
    private static final Class<?> NO_WAY = java.util.NoSuchElementException.class;

    private static final Check check = new Check();

    public static void main(String[] args) {
        countsEndAtTheirMost();
        placesGoByTheirCount();
        locksGoByTheirCount();
        propsGoByTheirCount();
        theLastLockIsTheOneThatOpens();
        eachPropOpensItsOwnLock();
        eachKindIsTried();
        eachFactIsOne();
        eachFactCanBeInASet();
        eachSwitchCanBeInASet();
        eachFactCanBeInferred();
        actsGoByTheirNumbersAndCounts();
        eachActCanBeTheHint();
        trialsAreOfAtMostFiveActs();
        ofAllStatesUpTo2000();
        shareOfEachNumberOfFacts();
        theGreatestChecksum();
        the512thCallAnswers();
        check.end();
    }

    /** The call must answer so first, go up by 1 until it answers so last, and then be refused each time. */
    private static void counts(String call, int first, int last, Check.Call made) {
        for (int i = first; i <= last; i++) {
            check.due(call, i, made);
        }
        check.due(call + " of one more", NOT_DONE, made);
        check.due(call + " of one more again", NOT_DONE, made);
    }

    private static void countsEndAtTheirMost() {
        EscapadeHouse house = new EscapadeHouse();
        counts("2: addPlace()", 0, 5, house::addPlace);
        counts("4: addDoor(4, 5, -1, false)", 0, 7, () -> house.addDoor(4, 5, -1, false));
        counts("5: addProp(5, -1, 11)", 0, 7, () -> house.addProp(5, -1, 11));
        counts("6: addKeyLock(5, 7, true)", 0, 5, () -> house.addKeyLock(5, 7, true));
        check.due("7: addLock('c') when there are 6 locks 'k'", NOT_DONE, () -> house.addLock('c', 5, 4095));
        counts("8: addSwitch(5)", 0, 3, () -> house.addSwitch(5));
        counts("9: infer(4095, 11)", 1, 6, () -> house.infer(4095, 11));

        EscapadeHouse other = Rooms.withPlaces(6);
        counts("7: addLock('s', 5, 15)", 0, 5, () -> other.addLock('s', 5, 15));
        check.due("6: addKeyLock when there are 6 locks 's'", NOT_DONE, () -> other.addKeyLock(5, 7, true));
    }

    private static void placesGoByTheirCount() {
        for (int count = 0; count <= 6; count++) {
            for (int place = -1; place <= count; place++) {
                boolean isThere = place >= 0 && place < count;
                onePlace(count, place, isThere ? null : NO_INDEX);
            }
        }
    }

    private static void onePlace(int places, int place, Class<?> refusal) {
        Object first = refusal == null ? 0 : refusal;
        Object before = refusal == null ? Math.max(0, places - 1) : refusal;
        String name = "(" + place + ") of " + places;
        check.due("3: setEnd" + name, before, () -> Rooms.withPlaces(places).setEnd(place));
        check.due("5: addProp" + name, first, () -> Rooms.withPlaces(places).addProp(place, -1, -1));
        check.due("6: addKeyLock" + name, first, () -> Rooms.withPlaces(places).addKeyLock(place, 0, false));
        check.due("7: addLock('c')" + name, first, () -> Rooms.withPlaces(places).addLock('c', place, 1));
        check.due("7: addLock('s')" + name, first, () -> Rooms.withPlaces(places).addLock('s', place, 1));
        check.due("8: addSwitch" + name, first, () -> Rooms.withPlaces(places).addSwitch(place));
        int other = place == 0 ? 1 : 0;
        Object door = places < 2 ? NO_INDEX : first;
        check.due("4: addDoor from " + name, door, () -> Rooms.withPlaces(places).addDoor(place, other, -1, false));
        check.due("4: addDoor to " + name, door, () -> Rooms.withPlaces(places).addDoor(other, place, -1, false));
        Object same = refusal == null ? NO_ARGUMENT : refusal;
        check.due("4: addDoor within " + name, same, () -> Rooms.withPlaces(places).addDoor(place, place, -1, false));
    }

    private static EscapadeHouse withLocks(int locks) {
        EscapadeHouse house = Rooms.withPlaces(2);
        for (int i = 0; i < locks; i++) {
            house.addLock('c', 0, 0);
        }
        return house;
    }

    private static void locksGoByTheirCount() {
        for (int count = 0; count <= 6; count++) {
            int locks = count;
            for (int number = -2; number <= count; number++) {
                int lock = number;
                boolean isThere = lock >= 0 && lock < count;
                Object made = isThere || lock == -1 ? 0 : NO_INDEX;
                String name = " of the lock " + lock + " of " + count;
                check.due("4: addDoor" + name, made, () -> withLocks(locks).addDoor(0, 1, lock, false));
                check.due("5: addProp" + name, made, () -> withLocks(locks).addProp(0, lock, -1));
                check.due("15: isOpen" + name, isThere ? false : NO_INDEX, () -> withLocks(locks).isOpen(lock));
                check.due("23: setSensor" + name, isThere ? true : NO_INDEX,
                        () -> withLocks(locks).setSensor(lock, false));
                check.due("24: seen" + name, isThere ? 's' : NO_INDEX, () -> withLocks(locks).seen(lock));
            }
        }
    }

    private static void propsGoByTheirCount() {
        for (int count = 0; count <= 8; count++) {
            EscapadeHouse house = Rooms.withPlaces(2);
            for (int i = 0; i < count; i++) {
                house.addProp(0, -1, -1);
            }
            for (int number = -1; number <= 8; number++) {
                int prop = number;
                boolean isThere = prop >= 0 && prop < count;
                check.due("14: propAt(" + prop + ") of " + count, isThere ? 'p' : NO_INDEX, () -> house.propAt(prop));
            }
        }
    }

    /** A door and a box of each lock, the last one too, open by this lock alone, and so its sensor shows. */
    private static void theLastLockIsTheOneThatOpens() {
        for (int number = 0; number < 6; number++) {
            int lock = number;
            EscapadeHouse house = withLocks(6);
            for (int i = 0; i < 6; i++) {
                house.addDoor(0, 1, i, false);
                house.addProp(0, i, -1);
            }
            house.act(40 + lock);
            for (int i = 0; i < 6; i++) {
                int other = i;
                boolean isIt = i == lock;
                check.due("15: isOpen(" + i + ") of " + lock, isIt, () -> house.isOpen(other));
                check.due("24: seen(" + i + ") of " + lock, isIt ? 'o' : 's', () -> house.seen(other));
                check.due("4: can(" + i + ") of " + lock, isIt, () -> house.can(other));
                check.due("5: can(20 + " + i + ") of " + lock, isIt, () -> house.can(20 + other));
                check.due("16: can(40 + " + i + ") of " + lock, !isIt, () -> house.can(40 + other));
            }
        }
    }

    private static void eachPropOpensItsOwnLock() {
        for (int number = 0; number <= 7; number++) {
            int prop = number;
            EscapadeHouse house = Rooms.withPlaces(2);
            check.due("6: addKeyLock(0, " + prop + ", true)", 0, () -> house.addKeyLock(0, prop, true));
            for (int i = 0; i < 8; i++) {
                house.addProp(0, -1, -1);
            }
            for (int i = 0; i < 8; i++) {
                if (i != prop) {
                    house.act(20 + i);
                }
            }
            check.due("6: can(40) by all but " + prop, false, () -> house.can(40));
            house.act(20 + prop);
            check.due("6: act(40) by " + prop, true, () -> house.act(40));
            for (int i = 0; i < 8; i++) {
                int other = i;
                check.due("14: propAt(" + i + ")", i == prop ? 'x' : 'h', () -> house.propAt(other));
            }
        }
        check.due("6: addKeyLock(0, -1, true)", NO_ARGUMENT, () -> Rooms.withPlaces(2).addKeyLock(0, -1, true));
        check.due("6: addKeyLock(0, 8, true)", NO_ARGUMENT, () -> Rooms.withPlaces(2).addKeyLock(0, 8, true));
    }

    private static void eachKindIsTried() {
        EscapadeHouse house = Rooms.withPlaces(2);
        for (int sign = Character.MIN_VALUE; sign <= Character.MAX_VALUE; sign++) {
            char kind = (char) sign;
            if (sign % 500 == 0) {
                house = Rooms.withPlaces(2);
            }
            EscapadeHouse now = house;
            boolean isKind = kind == 'c' || kind == 's';
            if (!isKind) {
                check.due("7: addLock((char) " + sign + ")", NO_ARGUMENT, () -> now.addLock(kind, 0, 1));
            }
        }
        check.due("7: addLock('c')", 0, () -> Rooms.withPlaces(2).addLock('c', 0, 1));
        check.due("7: addLock('s')", 0, () -> Rooms.withPlaces(2).addLock('s', 0, 1));
    }

    private static void eachFactIsOne() {
        for (int number = -2; number <= 12; number++) {
            int fact = number;
            boolean isFact = fact >= 0 && fact <= 11;
            EscapadeHouse house = Rooms.withPlaces(2);
            check.due("13: knows(" + fact + ")", isFact ? false : NO_ARGUMENT, () -> house.knows(fact));
            check.due("9: infer(1, " + fact + ")", isFact ? 1 : NO_ARGUMENT, () -> house.infer(1, fact));
            Object added = isFact || fact == -1 ? 0 : NO_ARGUMENT;
            check.due("5: addProp(0, -1, " + fact + ")", added, () -> house.addProp(0, -1, fact));
        }
        for (int number = -1; number <= 11; number++) {
            int fact = number;
            EscapadeHouse house = Rooms.withPlaces(2);
            house.addProp(0, -1, fact);
            check.due("10: act(10) at the fact " + fact, fact != -1, () -> house.act(10));
            for (int i = 0; i <= 11; i++) {
                int other = i;
                check.due("13: knows(" + i + ") of " + fact, i == fact, () -> house.knows(other));
            }
        }
    }

    private static void eachFactCanBeInASet() {
        for (int bit = 0; bit < 32; bit++) {
            int set = 1 << bit;
            boolean isFact = bit <= 11;
            EscapadeHouse house = Rooms.withPlaces(2);
            check.due("7: addLock('c', 0, 1 << " + bit + ")", isFact ? 0 : NO_ARGUMENT,
                    () -> house.addLock('c', 0, set));
            check.due("7: addLock('c', 0, 1 << " + bit + " and all facts)", isFact ? 0 : NO_ARGUMENT,
                    () -> Rooms.withPlaces(2).addLock('c', 0, set | 4095));
            check.due("9: infer(1 << " + bit + ", 0)", isFact ? 1 : NO_ARGUMENT, () -> house.infer(set, 0));
            check.due("9: infer(1 << " + bit + " and all facts, 0)", isFact ? 1 : NO_ARGUMENT,
                    () -> Rooms.withPlaces(2).infer(set | 4095, 0));
            if (isFact) {
                check.due("7: can(40) by the fact " + bit, true, () -> knowing(house, set).can(40));
                check.due("7: can(40) by all other facts", false, () -> withALock(set, 4095 & ~set).can(40));
                check.due("7: can(40) without the fact " + bit, false, () -> withALock(4095, 4095 & ~set).can(40));
            }
        }
        check.due("7: can(40) by all facts", true, () -> withALock(4095, 4095).can(40));
        check.due("7: can(40) by no fact", true, () -> withALock(0, 0).can(40));
        check.due("9: infer(0, 0)", NO_ARGUMENT, () -> Rooms.withPlaces(2).infer(0, 0));
    }

    /** A lock 'c' of these facts, and the group knows those: eight by props at most, the others by inferences. */
    private static EscapadeHouse withALock(int facts, int known) {
        EscapadeHouse house = Rooms.withPlaces(2);
        house.addLock('c', 0, facts);
        return knowing(house, known);
    }

    private static EscapadeHouse knowing(EscapadeHouse house, int known) {
        int told = 0;
        for (int fact = 0; fact <= 11; fact++) {
            boolean isKnown = (known >> fact & 1) != 0;
            if (isKnown && told < 8) {
                house.addProp(0, -1, fact);
                told++;
            } else if (isKnown) {
                house.infer(Integer.lowestOneBit(known), fact);
            }
        }
        house.act(10);
        return house;
    }

    private static void eachSwitchCanBeInASet() {
        for (int bit = 0; bit < 32; bit++) {
            int set = 1 << bit;
            Object due = bit <= 3 ? 0 : NO_ARGUMENT;
            check.due("7: addLock('s', 0, 1 << " + bit + ")", due, () -> Rooms.withPlaces(2).addLock('s', 0, set));
            check.due("7: addLock('s', 0, 1 << " + bit + " and all switches)", due,
                    () -> Rooms.withPlaces(2).addLock('s', 0, set | 15));
        }
        for (int number = 0; number <= 15; number++) {
            int set = number;
            EscapadeHouse house = Rooms.withPlaces(2);
            check.due("7: addLock('s', 0, " + set + ")", 0, () -> house.addLock('s', 0, set));
            for (int i = 0; i < 4; i++) {
                house.addSwitch(0);
            }
            // Each time another switch is turned, so that each set comes up once.
            for (int step = 1; step <= 16; step++) {
                int on = step - 1 ^ step - 1 >> 1;
                check.due("7: can(40) of the set " + set + " when on are " + on, on == set, () -> house.can(40));
                house.act(60 + Math.min(3, Integer.numberOfTrailingZeros(step)));
            }
        }
    }

    private static void eachFactCanBeInferred() {
        for (int number = 0; number <= 11; number++) {
            int fact = number;
            int told = fact == 0 ? 11 : 0;
            EscapadeHouse house = Rooms.withPlaces(2);
            house.addProp(0, -1, told);
            house.infer(1 << told, fact);
            house.act(10);
            for (int i = 0; i <= 11; i++) {
                int other = i;
                check.due("9: knows(" + i + ")", i == fact || i == told, () -> house.knows(other));
            }
        }
    }

    /** So many of each kind in the place 0; each can be used at once, a prop, too. */
    private static EscapadeHouse withEach(int count) {
        EscapadeHouse house = Rooms.withPlaces(2);
        for (int i = 0; i < count; i++) {
            Check.answerOf(() -> house.addDoor(0, 1, -1, false));
            Check.answerOf(() -> house.addProp(0, -1, -1));
            Check.answerOf(() -> house.addLock('c', 0, 0));
            Check.answerOf(() -> house.addSwitch(0));
        }
        return house;
    }

    private static void actsGoByTheirNumbersAndCounts() {
        for (int count = 0; count <= 8; count++) {
            for (int number = -3; number <= 70; number++) {
                int each = count;
                int act = number;
                Object can = act == 10 ? true : null;
                can = isAmong(act, 0, 7) ? act - 0 < count : can;
                can = isAmong(act, 20, 27) ? act - 20 < count : can;
                can = isAmong(act, 40, 45) ? act - 40 < count : can;
                can = isAmong(act, 60, 63) ? act - 60 < count : can;
                String name = "(" + act + ") of " + count;
                check.due("16: can" + name, can == null ? NO_ARGUMENT : can, () -> withEach(each).can(act));
                Object done = can == null ? NO_ARGUMENT : can.equals(true) ? act != 10 : NOT_DONE;
                check.due("10: act" + name, done, () -> withEach(each).act(act));
                Object wrong = can == null ? NO_ARGUMENT : can.equals(true) && count < 4 ? false : NOT_DONE;
                check.due("22: isWrong" + name, wrong, () -> withEach(each).isWrong(act));
            }
        }
    }

    private static boolean isAmong(int act, int first, int last) {
        return first <= act && act <= last;
    }

    /** Of as many as there can be of a kind, just one leads on, and it takes so many acts. */
    private static void eachActCanBeTheHint() {
        for (int i = 0; i <= 7; i++) {
            hints(i, 1, withADoor(i));
            EscapadeHouse byProp = Rooms.withPlaces(3);
            byProp.addKeyLock(0, i, false);
            for (int prop = 0; prop <= 7; prop++) {
                byProp.addProp(0, -1, -1);
            }
            byProp.addDoor(0, 2, 0, true);
            hints(20 + i, 3, byProp);
        }
        for (int i = 0; i <= 5; i++) {
            EscapadeHouse byLock = withLocks(6);
            byLock.addDoor(0, 1, i, true);
            hints(40 + i, 2, byLock);
        }
        for (int i = 0; i <= 3; i++) {
            EscapadeHouse bySwitch = Rooms.withPlaces(2);
            bySwitch.addLock('s', 0, 1 << i);
            for (int number = 0; number <= 3; number++) {
                bySwitch.addSwitch(0);
            }
            bySwitch.addDoor(0, 1, 0, true);
            hints(60 + i, 3, bySwitch);
        }
        EscapadeHouse byFact = Rooms.withPlaces(2);
        byFact.addLock('c', 0, 1 << 11);
        byFact.addProp(0, -1, 11);
        byFact.addDoor(0, 1, 0, true);
        hints(10, 3, byFact);
    }

    /** Eight doors, all but one of them into a place without a way. */
    private static EscapadeHouse withADoor(int door) {
        EscapadeHouse house = Rooms.withPlaces(3);
        for (int i = 0; i <= 7; i++) {
            house.addDoor(0, i == door ? 2 : 1, -1, true);
        }
        return house;
    }

    private static void hints(int act, int way, EscapadeHouse house) {
        check.due("21: hint() of " + act, act, house::hint);
        check.due("22: isWrong(" + act + "), the hint", false, () -> house.isWrong(act));
        check.due("19: wayLeft() by " + act, way, house::wayLeft);
        check.due("20: canIn(" + way + ") by " + act, true, () -> house.canIn(way));
        check.due("20: canIn(" + (way - 1) + ") by " + act, false, () -> house.canIn(way - 1));
        house.act(act);
        check.due("19: wayLeft() after " + act, way - 1, house::wayLeft);
    }

    /** A chain of five doors, some of them with a lock that is opened first: a way of 0 to 11 acts. */
    private static EscapadeHouse withAWayOf(int acts) {
        EscapadeHouse house = Rooms.withPlaces(6);
        if (acts <= 5) {
            house.setEnd(acts);
        }
        for (int i = 0; i < 5; i++) {
            boolean hasLock = i < acts - 5;
            if (hasLock) {
                house.addLock('c', i, 0);
            }
            house.addDoor(i, i + 1, hasLock ? i : -1, true);
        }
        return house;
    }

    private static void trialsAreOfAtMostFiveActs() {
        for (int way = 0; way <= 10; way++) {
            EscapadeHouse house = withAWayOf(way);
            check.due("19: wayLeft()", way, house::wayLeft);
            check.due("28: isSound() at a way of " + way, true, house::isSound);
            for (int number = -1; number <= 6; number++) {
                int acts = number;
                Object due = acts < 0 || acts > 5 ? NO_ARGUMENT : acts >= way;
                check.due("20: canIn(" + acts + ") at a way of " + way, due, () -> house.canIn(acts));
            }
        }
    }

    private static void ofAllStatesUpTo2000() {
        EscapadeHouse house = Rooms.of2000States();
        check.due("17: states() of 2000", 2000, house::states);
        check.due("18: deadEnds() of 2000", 352, house::deadEnds);
        check.due("19: wayLeft() of 2000", 4, house::wayLeft);
        check.due("21: hint() of 2000", 20, house::hint);
        check.due("27: meanWay() of 2000", 3568.0 / 1648.0, house::meanWay);
        check.due("28: isSound() of 2000", true, house::isSound);
        house.act(20);
        check.due("22: isWrong(42) of 2000", true, () -> house.isWrong(42));
        check.due("22: isWrong(41) of 2000", false, () -> house.isWrong(41));
        house.act(42);
        check.due("19: wayLeft() of 2000 when dead", NO_WAY, house::wayLeft);

        check.due("17: states() of 4096 dead ones", NOT_DONE, Rooms.ofTooManyDeadStates()::states);
        EscapadeHouse larger = Rooms.of2001States();
        check.due("17: states() of 2001", NOT_DONE, larger::states);
        larger.setEnd(1);
        check.due("17: states() with a nearer end", 2, larger::states);
        larger.setEnd(3);
        check.due("17: states() of 2001 again", NOT_DONE, larger::states);
        EscapadeHouse more = Rooms.of2000States();
        check.due("17: states() before a switch is added", 2000, more::states);
        more.addSwitch(0);
        check.due("17: states() with a switch more", NOT_DONE, more::states);
    }

    private static void shareOfEachNumberOfFacts() {
        for (int number = 0; number <= 12; number++) {
            int facts = number;
            EscapadeHouse house = knowing(Rooms.withPlaces(2), (1 << facts) - 1);
            check.due("26: knownShare() of " + facts, (float) facts / 12f, house::knownShare);
        }
    }

    /** In the last place, all facts known, seven props in hands and one broken, all locks open, all switches on. */
    private static void theGreatestChecksum() {
        EscapadeHouse house = Rooms.withPlaces(6);
        house.setEnd(4);
        house.addDoor(0, 5, -1, false);
        house.addKeyLock(0, 7, true);
        for (int i = 0; i < 5; i++) {
            house.addLock('c', 0, 0);
        }
        for (int i = 0; i < 6; i++) {
            house.addProp(0, -1, i);
            house.infer(1 << i, i + 6);
        }
        house.addProp(0, -1, -1);
        house.addProp(0, -1, -1);
        for (int i = 0; i < 4; i++) {
            house.addSwitch(0);
        }
        house.act(10);
        for (int act : new int[] {20, 21, 22, 23, 24, 25, 26, 27, 40, 41, 42, 43, 44, 45, 60, 61, 62, 63, 0}) {
            house.act(act);
        }
        long due = ((((5L * 31 + 4095) * 31 + 127) * 31 + 128) * 31 + 63) * 31 + 15;
        check.due("25: checksum() of all there is", due, house::checksum);
        check.due("26: knownShare() of all there is", 1f, house::knownShare);
        check.due("11: reset()", 20, house::reset);
        check.due("25: checksum() at first", 0L, house::checksum);
    }

    private static void the512thCallAnswers() {
        EscapadeHouse looking = Rooms.withPlaces(2);
        for (int call = 4; call <= 511; call++) {
            looking.act(10);
        }
        check.due("11: reset() by the 512th call", 508, looking::reset);

        EscapadeHouse asked = Rooms.of2000States();
        for (int call = 16; call <= 511; call++) {
            asked.states();
        }
        check.due("28: isSound() by the 512th call", true, asked::isSound);
    }
}
