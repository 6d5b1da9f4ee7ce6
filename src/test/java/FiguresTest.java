/** Promises 25 to 28: figures of the state and of the room. */
public final class FiguresTest {
    private static final Check check = new Check();

    public static void main(String[] args) {
        theChecksumGoesByTheState();
        theShareOfKnownFacts();
        theMeanWay();
        allIsSound();
        check.end();
    }

    private static EscapadeHouse withAllSorts() {
        EscapadeHouse house = new EscapadeHouse();
        house.addPlace();
        house.addPlace();
        house.addPlace();
        house.setEnd(2);
        house.addKeyLock(0, 1, true);
        house.addKeyLock(0, 2, false);
        house.addProp(0, -1, 0);
        house.addProp(0, -1, 11);
        house.addProp(0, -1, -1);
        house.addSwitch(0);
        house.addSwitch(0);
        house.addDoor(0, 1, -1, false);
        return house;
    }

    private static long sum(long place, long known, long hands, long broken, long open, long on) {
        return ((((place * 31 + known) * 31 + hands) * 31 + broken) * 31 + open) * 31 + on;
    }

    private static void theChecksumGoesByTheState() {
        EscapadeHouse house = withAllSorts();
        check.due("25: checksum() at first", 0L, house::checksum);
        house.act(61);
        check.due("25: checksum() of a switch", sum(0, 0, 0, 0, 0, 2), house::checksum);
        house.act(21);
        house.act(22);
        check.due("25: checksum() of props in hands", sum(0, 0, 6, 0, 0, 2), house::checksum);
        house.act(10);
        check.due("25: checksum() of facts", sum(0, 1 + 2048, 6, 0, 0, 2), house::checksum);
        house.act(41);
        check.due("25: checksum() of an open lock", sum(0, 2049, 6, 0, 2, 2), house::checksum);
        house.act(40);
        check.due("25: checksum() of a broken prop", sum(0, 2049, 4, 2, 3, 2), house::checksum);
        house.act(0);
        check.due("25: checksum() of a place", sum(1, 2049, 4, 2, 3, 2), house::checksum);
        house.setSensor(0, false);
        check.due("25: checksum() without sensors", sum(1, 2049, 4, 2, 3, 2), house::checksum);
        house.reset();
        check.due("25: checksum() after a reset", 0L, house::checksum);
    }

    private static void theShareOfKnownFacts() {
        EscapadeHouse house = new EscapadeHouse();
        house.addPlace();
        house.addPlace();
        house.setEnd(1);
        for (int i = 0; i < 6; i++) {
            house.addProp(0, -1, i);
            house.infer(1 << i, i + 6);
        }
        check.due("26: knownShare() of none", 0f, house::knownShare);
        house.act(10);
        check.due("26: knownShare() of all", 1f, house::knownShare);

        EscapadeHouse less = withAllSorts();
        less.act(20);
        less.act(0);
        less.act(10);
        check.due("26: knownShare() of one", 1f / 12f, less::knownShare);
        less.act(0);
        less.act(10);
        check.due("26: knownShare() of two", 2f / 12f, less::knownShare);
    }

    private static void theMeanWay() {
        EscapadeHouse house = new EscapadeHouse();
        check.due("27: meanWay() of no places", 0.0, house::meanWay);
        for (int i = 0; i < 4; i++) {
            house.addPlace();
        }
        house.setEnd(2);
        house.addDoor(0, 1, -1, false);
        house.addDoor(1, 2, -1, false);
        check.due("27: meanWay() of 2, 1 and 0", 1.0, house::meanWay);
        house.addDoor(0, 3, -1, true);
        check.due("27: meanWay() without the dead state", 1.0, house::meanWay);
        check.due("18: deadEnds()", 1, house::deadEnds);
        house.addLock('c', 0, 0);
        check.due("27: meanWay() with a lock", (2 + 1 + 0 + 2 + 1 + 0) / 6.0, house::meanWay);
        house.act(0);
        check.due("27: meanWay() after an act", 1.0, house::meanWay);
        house.reset();
        house.addDoor(0, 2, 0, true);
        check.due("27: meanWay() with a door by the lock", (2 + 1 + 0 + 1 + 1 + 0) / 6.0, house::meanWay);
        house.setEnd(1);
        check.due("27: meanWay() to another end", (1 + 0 + 1 + 0 + 1) / 5.0, house::meanWay);
    }

    private static void allIsSound() {
        EscapadeHouse house = withAllSorts();
        check.due("28: isSound() at first", true, house::isSound);
        for (int act : new int[] {10, 21, 40, 60, 0}) {
            house.act(act);
            check.due("28: isSound() after act(" + act + ")", true, house::isSound);
        }
        house.setSensor(0, false);
        house.reset();
        check.due("28: isSound() with a sensor that shows what was", true, house::isSound);
        house.setSensor(0, true);
        check.due("28: isSound() with the sensor again", true, house::isSound);
    }
}
