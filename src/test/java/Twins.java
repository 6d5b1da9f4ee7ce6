import java.util.ArrayList;
import java.util.List;
import java.util.Map;
import java.util.TreeMap;

/**
 * A house and the reference side by side: each call is made in both, and must be answered alike. What calls beyond the
 * 512th answer is free, so they are not made at all.
 */
final class Twins {
    static final int MOST_CALLS = 512;

    private final Check check;
    private final String name;
    private final EscapadeHouse house = new EscapadeHouse();
    private final Reference reference = new Reference();
    private final Map<String, Integer> outcomes;
    private int calls = 0;

    Twins(Check check, String name) {
        this(check, name, new TreeMap<>());
    }

    /** The outcomes count how often each method answered what: a boolean, a sign, an exception, or "a number". */
    Twins(Check check, String name, Map<String, Integer> outcomes) {
        this.check = check;
        this.name = name;
        this.outcomes = outcomes;
    }

    boolean isSpent() {
        return calls >= MOST_CALLS;
    }

    /** Told by the reference alone, so that it is no call. */
    List<Integer> possibleActs() {
        List<Integer> possible = new ArrayList<>();
        for (int act : Reference.allActs()) {
            if (reference.can(act)) {
                possible.add(act);
            }
        }
        return possible;
    }

    /** The way that is left, told by the reference alone; 0 where there is none, or too many states. */
    int dueWay() {
        Object way = Check.answerOf(reference::wayLeft);
        return way instanceof Integer acts ? acts : 0;
    }

    Object addPlace() {
        return same("addPlace", "", reference::addPlace, house::addPlace);
    }

    Object setEnd(int place) {
        return same("setEnd", "" + place, () -> reference.setEnd(place), () -> house.setEnd(place));
    }

    Object addDoor(int from, int to, int lock, boolean isSlamming) {
        return same("addDoor", from + ", " + to + ", " + lock + ", " + isSlamming,
                () -> reference.addDoor(from, to, lock, isSlamming), () -> house.addDoor(from, to, lock, isSlamming));
    }

    Object addProp(int place, int lock, int fact) {
        return same("addProp", place + ", " + lock + ", " + fact,
                () -> reference.addProp(place, lock, fact), () -> house.addProp(place, lock, fact));
    }

    Object addKeyLock(int place, int prop, boolean isBreaking) {
        return same("addKeyLock", place + ", " + prop + ", " + isBreaking,
                () -> reference.addKeyLock(place, prop, isBreaking), () -> house.addKeyLock(place, prop, isBreaking));
    }

    Object addLock(char kind, int place, int set) {
        return same("addLock", "(char) " + (int) kind + ", " + place + ", " + set,
                () -> reference.addLock(kind, place, set), () -> house.addLock(kind, place, set));
    }

    Object addSwitch(int place) {
        return same("addSwitch", "" + place, () -> reference.addSwitch(place), () -> house.addSwitch(place));
    }

    Object infer(int facts, int fact) {
        return same("infer", facts + ", " + fact,
                () -> reference.infer(facts, fact), () -> house.infer(facts, fact));
    }

    Object act(int act) {
        return same("act", "" + act, () -> reference.act(act), () -> house.act(act));
    }

    Object reset() {
        return same("reset", "", reference::reset, house::reset);
    }

    Object place() {
        return same("place", "", reference::place, house::place);
    }

    Object knows(int fact) {
        return same("knows", "" + fact, () -> reference.knows(fact), () -> house.knows(fact));
    }

    Object propAt(int prop) {
        return same("propAt", "" + prop, () -> reference.propAt(prop), () -> house.propAt(prop));
    }

    Object isOpen(int lock) {
        return same("isOpen", "" + lock, () -> reference.isOpen(lock), () -> house.isOpen(lock));
    }

    Object can(int act) {
        return same("can", "" + act, () -> reference.can(act), () -> house.can(act));
    }

    Object states() {
        return same("states", "", reference::states, house::states);
    }

    Object deadEnds() {
        return same("deadEnds", "", reference::deadEnds, house::deadEnds);
    }

    Object wayLeft() {
        return same("wayLeft", "", reference::wayLeft, house::wayLeft);
    }

    Object canIn(int acts) {
        return same("canIn", "" + acts, () -> reference.canIn(acts), () -> house.canIn(acts));
    }

    Object hint() {
        return same("hint", "", reference::hint, house::hint);
    }

    Object isWrong(int act) {
        return same("isWrong", "" + act, () -> reference.isWrong(act), () -> house.isWrong(act));
    }

    Object setSensor(int lock, boolean works) {
        return same("setSensor", lock + ", " + works,
                () -> reference.setSensor(lock, works), () -> house.setSensor(lock, works));
    }

    Object seen(int lock) {
        return same("seen", "" + lock, () -> reference.seen(lock), () -> house.seen(lock));
    }

    Object checksum() {
        return same("checksum", "", reference::checksum, house::checksum);
    }

    Object knownShare() {
        return same("knownShare", "", reference::knownShare, house::knownShare);
    }

    Object meanWay() {
        return same("meanWay", "", reference::meanWay, house::meanWay);
    }

    Object isSound() {
        return same("isSound", "", reference::isSound, house::isSound);
    }

    /** Answers what is due, an exception by its class; nothing where the calls are spent. */
    private Object same(String method, String arguments, Check.Call due, Check.Call made) {
        if (isSpent()) {
            return "nothing";
        }
        calls++;
        Object want = Check.answerOf(due);
        check.due(name + ", call " + calls + ": " + method + "(" + arguments + ")", want, made);
        outcomes.merge(method + " " + kindOf(want), 1, Integer::sum);
        return want;
    }

    private static String kindOf(Object answer) {
        if (answer instanceof Class<?> thrown) {
            return thrown.getSimpleName();
        }
        return answer instanceof Number ? "a number" : answer.toString();
    }
}
