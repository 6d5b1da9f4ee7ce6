/** Rooms that several tests use. */
final class Rooms {
    private Rooms() {
    }

    /** The last place is the end. */
    static EscapadeHouse withPlaces(int places) {
        EscapadeHouse house = new EscapadeHouse();
        for (int i = 0; i < places; i++) {
            house.addPlace();
        }
        if (places > 0) {
            house.setEnd(places - 1);
        }
        return house;
    }

    /** Exactly 2000 states; the 352 dead ones are those where the prop 0 broke before it opened the lock 1. */
    static EscapadeHouse of2000States() {
        EscapadeHouse house = withPlaces(3);
        house.addLock('c', 0, 1);
        house.addKeyLock(0, 0, false);
        house.addKeyLock(0, 0, true);
        house.addDoor(0, 1, -1, false);
        house.addDoor(1, 2, 1, false);
        house.addProp(0, -1, 0);
        house.addProp(1, -1, 1);
        house.addProp(1, -1, 0);
        house.addSwitch(1);
        house.addSwitch(0);
        house.addSwitch(0);
        return house;
    }

    static EscapadeHouse ofOneSwitchMore() {
        EscapadeHouse house = of2000States();
        house.addSwitch(0);
        return house;
    }

    /** Exactly 2001 states, none of them dead. */
    static EscapadeHouse of2001States() {
        EscapadeHouse house = withPlaces(4);
        house.addLock('c', 2, 1);
        house.addLock('c', 1, 2);
        house.addLock('c', 1, 0);
        house.addKeyLock(1, 0, true);
        house.addDoor(0, 1, -1, true);
        house.addDoor(1, 2, -1, false);
        house.addDoor(2, 3, 2, false);
        house.addProp(1, -1, 2);
        house.addProp(2, -1, 1);
        house.addProp(2, -1, 0);
        house.addProp(1, -1, 0);
        house.addProp(2, -1, 2);
        return house;
    }

    /** The end has no door; each of the 8 props is in its place or in hands, each of the 4 switches on or off. */
    static EscapadeHouse ofTooManyDeadStates() {
        EscapadeHouse house = withPlaces(2);
        for (int i = 0; i < 8; i++) {
            house.addProp(0, -1, -1);
        }
        for (int i = 0; i < 4; i++) {
            house.addSwitch(0);
        }
        return house;
    }
}
