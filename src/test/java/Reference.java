import java.util.ArrayDeque;
import java.util.ArrayList;
import java.util.HashMap;
import java.util.HashSet;
import java.util.LinkedHashMap;
import java.util.List;
import java.util.Map;
import java.util.NoSuchElementException;
import java.util.Set;
import java.util.TreeSet;

/** The document written out a second time, as slowly and plainly as can be, to compare the class with. */
final class Reference {
    private static final int TOO_MANY = 2000;

    private static final class Situation {
        int place;
        Set<Integer> known = new TreeSet<>();
        Set<Integer> hands = new TreeSet<>();
        Set<Integer> broken = new TreeSet<>();
        Set<Integer> open = new TreeSet<>();
        Set<Integer> on = new TreeSet<>();

        Situation copy() {
            Situation copy = new Situation();
            copy.place = place;
            copy.known.addAll(known);
            copy.hands.addAll(hands);
            copy.broken.addAll(broken);
            copy.open.addAll(open);
            copy.on.addAll(on);
            return copy;
        }

        String text() {
            return place + " " + known + hands + broken + open + on;
        }
    }

    private int places;
    private int end;
    private final List<int[]> doors = new ArrayList<>();
    private final List<int[]> props = new ArrayList<>();
    private final List<int[]> locks = new ArrayList<>();
    private final List<Integer> switches = new ArrayList<>();
    private final List<int[]> inferences = new ArrayList<>();

    private Situation now = new Situation();
    private int acts;
    private final boolean[] fails = new boolean[6];
    private final boolean[] lastSeenOpen = new boolean[6];

    private Map<String, Integer> proof;
    private boolean isTooMany;

    int addPlace() {
        onlyBeforeActs();
        onlyUpTo(6, places);
        proof = null;
        return places++;
    }

    int setEnd(int place) {
        needPlace(place);
        onlyBeforeActs();
        int before = end;
        end = place;
        proof = null;
        return before;
    }

    int addDoor(int from, int to, int lock, boolean isSlamming) {
        needPlace(from);
        needPlace(to);
        needLockOrNone(lock);
        if (from == to) {
            throw new IllegalArgumentException();
        }
        onlyBeforeActs();
        onlyUpTo(8, doors.size());
        doors.add(new int[] {from, to, lock, isSlamming ? 1 : 0});
        proof = null;
        return doors.size() - 1;
    }

    int addProp(int place, int lock, int fact) {
        needPlace(place);
        needLockOrNone(lock);
        if (fact < -1 || fact > 11) {
            throw new IllegalArgumentException();
        }
        onlyBeforeActs();
        onlyUpTo(8, props.size());
        props.add(new int[] {place, lock, fact});
        proof = null;
        return props.size() - 1;
    }

    int addKeyLock(int place, int prop, boolean isBreaking) {
        needPlace(place);
        if (prop < 0 || prop > 7) {
            throw new IllegalArgumentException();
        }
        onlyBeforeActs();
        onlyUpTo(6, locks.size());
        locks.add(new int[] {'k', place, prop, isBreaking ? 1 : 0});
        proof = null;
        return locks.size() - 1;
    }

    int addLock(char kind, int place, int set) {
        boolean isFitting = kind == 'c' ? set >= 0 && set < 4096 : kind == 's' && set >= 0 && set < 16;
        if (!isFitting) {
            throw new IllegalArgumentException();
        }
        needPlace(place);
        onlyBeforeActs();
        onlyUpTo(6, locks.size());
        locks.add(new int[] {kind, place, set, 0});
        proof = null;
        return locks.size() - 1;
    }

    int addSwitch(int place) {
        needPlace(place);
        onlyBeforeActs();
        onlyUpTo(4, switches.size());
        switches.add(place);
        proof = null;
        return switches.size() - 1;
    }

    int infer(int facts, int fact) {
        if (facts < 1 || facts > 4095 || fact < 0 || fact > 11) {
            throw new IllegalArgumentException();
        }
        onlyBeforeActs();
        onlyUpTo(6, inferences.size());
        inferences.add(new int[] {facts, fact});
        proof = null;
        return inferences.size();
    }

    boolean act(int act) {
        needAct(act);
        Situation next = after(now, act);
        if (next == null) {
            throw new UnsupportedOperationException();
        }
        boolean isOther = !next.text().equals(now.text());
        now = next;
        acts++;
        look();
        return isOther;
    }

    int reset() {
        int before = acts;
        acts = 0;
        now = new Situation();
        look();
        return before;
    }

    int place() {
        return now.place;
    }

    boolean knows(int fact) {
        if (fact < 0 || fact > 11) {
            throw new IllegalArgumentException();
        }
        return now.known.contains(fact);
    }

    char propAt(int prop) {
        if (prop < 0 || prop >= props.size()) {
            throw new IndexOutOfBoundsException();
        }
        return now.hands.contains(prop) ? 'h' : now.broken.contains(prop) ? 'x' : 'p';
    }

    boolean isOpen(int lock) {
        needLock(lock);
        return now.open.contains(lock);
    }

    boolean can(int act) {
        needAct(act);
        return after(now, act) != null;
    }

    int states() {
        return proven().size();
    }

    int deadEnds() {
        int dead = 0;
        for (int way : proven().values()) {
            if (way < 0) {
                dead++;
            }
        }
        return dead;
    }

    int wayLeft() {
        int way = proven().get(now.text());
        if (way < 0) {
            throw new NoSuchElementException();
        }
        return way;
    }

    boolean canIn(int acts) {
        if (acts < 0 || acts > 5) {
            throw new IllegalArgumentException();
        }
        Map<String, Situation> reached = new HashMap<>();
        reached.put(now.text(), now);
        for (int i = 0; i < acts; i++) {
            for (Situation one : new ArrayList<>(reached.values())) {
                for (int act : allActs()) {
                    Situation next = after(one, act);
                    if (next != null) {
                        reached.putIfAbsent(next.text(), next);
                    }
                }
            }
        }
        for (Situation one : reached.values()) {
            if (one.place == end) {
                return true;
            }
        }
        return false;
    }

    int hint() {
        int way = wayLeft();
        if (way == 0) {
            throw new IllegalStateException();
        }
        for (int act : allActs()) {
            Situation next = after(now, act);
            if (next != null && proven().get(next.text()) == way - 1) {
                return act;
            }
        }
        throw new AssertionError("a way without a first act");
    }

    boolean isWrong(int act) {
        needAct(act);
        Situation next = after(now, act);
        if (next == null) {
            throw new UnsupportedOperationException();
        }
        return proven().get(now.text()) >= 0 && proven().get(next.text()) < 0;
    }

    boolean setSensor(int lock, boolean works) {
        needLock(lock);
        boolean before = !fails[lock];
        fails[lock] = !works;
        look();
        return before;
    }

    char seen(int lock) {
        needLock(lock);
        return lastSeenOpen[lock] ? 'o' : 's';
    }

    long checksum() {
        long sum = 0;
        sum = 31 * sum + now.place;
        sum = 31 * sum + number(now.known);
        sum = 31 * sum + number(now.hands);
        sum = 31 * sum + number(now.broken);
        sum = 31 * sum + number(now.open);
        return 31 * sum + number(now.on);
    }

    float knownShare() {
        return (float) now.known.size() / 12f;
    }

    double meanWay() {
        double sum = 0;
        double living = 0;
        for (int way : proven().values()) {
            if (way >= 0) {
                sum += way;
                living++;
            }
        }
        if (living == 0) {
            throw new ArithmeticException();
        }
        return sum / living;
    }

    boolean isSound() {
        return true;
    }

    /** All acts that exist, in their order. */
    static List<Integer> allActs() {
        List<Integer> acts = new ArrayList<>();
        for (int number = 0; number < 64; number++) {
            if (number <= 7 || number == 10 || number >= 20 && number <= 27
                    || number >= 40 && number <= 45 || number >= 60) {
                acts.add(number);
            }
        }
        return acts;
    }

    /** Null if the act cannot be done. */
    private Situation after(Situation before, int act) {
        if (before.place == end) {
            return null;
        }
        Situation next = before.copy();
        if (act < 10) {
            return act < doors.size() && goes(next, doors.get(act)) ? next : null;
        }
        if (act == 10) {
            looks(next);
            return next;
        }
        if (act < 40) {
            return canSee(before, act - 20) && next.hands.add(act - 20) ? next : null;
        }
        if (act < 60) {
            return act - 40 < locks.size() && opens(next, act - 40) ? next : null;
        }
        if (act - 60 >= switches.size() || switches.get(act - 60) != before.place) {
            return null;
        }
        if (!next.on.remove(act - 60)) {
            next.on.add(act - 60);
        }
        return next;
    }

    private static boolean goes(Situation group, int[] door) {
        if (door[2] != -1 && !group.open.contains(door[2])) {
            return false;
        }
        if (group.place == door[0]) {
            group.place = door[1];
            return true;
        }
        if (group.place == door[1] && door[3] == 0) {
            group.place = door[0];
            return true;
        }
        return false;
    }

    private boolean canSee(Situation group, int prop) {
        if (prop >= props.size() || group.hands.contains(prop) || group.broken.contains(prop)) {
            return false;
        }
        int[] it = props.get(prop);
        return it[0] == group.place && (it[1] == -1 || group.open.contains(it[1]));
    }

    private void looks(Situation group) {
        for (int prop = 0; prop < props.size(); prop++) {
            int fact = props.get(prop)[2];
            if (fact != -1 && (canSee(group, prop) || group.hands.contains(prop))) {
                group.known.add(fact);
            }
        }
        boolean isMore = true;
        while (isMore) {
            isMore = false;
            for (int[] inference : inferences) {
                if (group.known.containsAll(members(inference[0]))) {
                    isMore |= group.known.add(inference[1]);
                }
            }
        }
    }

    private boolean opens(Situation group, int lock) {
        int[] it = locks.get(lock);
        if (it[1] != group.place || group.open.contains(lock)) {
            return false;
        }
        boolean opens = switch (it[0]) {
            case 'k' -> group.hands.contains(it[2]);
            case 'c' -> group.known.containsAll(members(it[2]));
            default -> group.on.equals(members(it[2]));
        };
        if (!opens) {
            return false;
        }
        group.open.add(lock);
        if (it[3] == 1) {
            group.hands.remove(it[2]);
            group.broken.add(it[2]);
        }
        return true;
    }

    private void look() {
        for (int lock = 0; lock < 6; lock++) {
            if (!fails[lock]) {
                lastSeenOpen[lock] = now.open.contains(lock);
            }
        }
    }

    private static Set<Integer> members(int set) {
        Set<Integer> members = new TreeSet<>();
        for (int i = 0; i < 31; i++) {
            if ((set & 1 << i) != 0) {
                members.add(i);
            }
        }
        return members;
    }

    private static long number(Set<Integer> members) {
        long number = 0;
        for (int member : members) {
            number += 1L << member;
        }
        return number;
    }

    private Map<String, Integer> proven() {
        if (proof == null) {
            prove();
        }
        if (isTooMany) {
            throw new UnsupportedOperationException();
        }
        return proof;
    }

    /** The way that is left from each state, -1 for a dead one. */
    private void prove() {
        Map<String, Situation> found = new LinkedHashMap<>();
        Map<String, Set<String>> comesFrom = new HashMap<>();
        ArrayDeque<Situation> open = new ArrayDeque<>();
        Situation first = new Situation();
        found.put(first.text(), first);
        open.add(first);
        while (!open.isEmpty() && found.size() <= TOO_MANY) {
            Situation one = open.remove();
            for (int act : allActs()) {
                Situation next = after(one, act);
                if (next == null) {
                    continue;
                }
                if (found.putIfAbsent(next.text(), next) == null) {
                    open.add(next);
                }
                comesFrom.computeIfAbsent(next.text(), text -> new HashSet<>()).add(one.text());
            }
        }
        isTooMany = found.size() > TOO_MANY;
        proof = new HashMap<>();
        ArrayDeque<String> back = new ArrayDeque<>();
        for (Map.Entry<String, Situation> entry : found.entrySet()) {
            boolean isEnd = entry.getValue().place == end;
            proof.put(entry.getKey(), isEnd ? 0 : -1);
            if (isEnd) {
                back.add(entry.getKey());
            }
        }
        while (!back.isEmpty()) {
            String to = back.remove();
            for (String from : comesFrom.getOrDefault(to, Set.of())) {
                if (proof.get(from) < 0) {
                    proof.put(from, proof.get(to) + 1);
                    back.add(from);
                }
            }
        }
    }

    private void onlyBeforeActs() {
        if (acts > 0) {
            throw new IllegalStateException();
        }
    }

    private static void onlyUpTo(int most, int count) {
        if (count == most) {
            throw new UnsupportedOperationException();
        }
    }

    private void needPlace(int place) {
        if (place < 0 || place >= places) {
            throw new IndexOutOfBoundsException();
        }
    }

    private void needLock(int lock) {
        if (lock < 0 || lock >= locks.size()) {
            throw new IndexOutOfBoundsException();
        }
    }

    private void needLockOrNone(int lock) {
        if (lock != -1) {
            needLock(lock);
        }
    }

    private static void needAct(int act) {
        if (!allActs().contains(act)) {
            throw new IllegalArgumentException();
        }
    }
}
