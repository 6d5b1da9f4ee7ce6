import java.util.ArrayList;
import java.util.List;
import java.util.Random;

/** All promises: long runs of calls, from fixed seeds, answered by the class and by the reference alike. */
public final class ComparisonTest {
    private static final int RUNS = 600;
    private static final int CALLS = 512;

    private final Check check;
    private final Random dice;
    private final String name;
    private final int places;
    private final EscapadeHouse house = new EscapadeHouse();
    private final Reference reference = new Reference();
    private int calls = 0;

    private ComparisonTest(Check check, int seed) {
        this.check = check;
        this.dice = new Random(seed);
        this.name = "run " + seed + ": ";
        this.places = seed % 50 == 0 ? seed % 3 : 2 + dice.nextInt(5);
    }

    public static void main(String[] args) {
        Check check = new Check();
        for (int seed = 0; seed < RUNS && check.isRight(); seed++) {
            new ComparisonTest(check, seed).run();
        }
        check.end();
    }

    private void run() {
        for (int i = 0; i < places; i++) {
            same("addPlace()", reference::addPlace, house::addPlace);
        }
        setEnd(places - 1);
        if (dice.nextInt(10) > 0) {
            buildRichly();
        }
        for (int i = dice.nextInt(8); i > 0; i--) {
            build();
        }
        // Play takes up to two calls.
        while (calls < CALLS - 1) {
            int die = dice.nextInt(50);
            if (die == 0) {
                build();
            } else if (die < 20) {
                play();
            } else {
                ask();
            }
        }
    }

    private void same(String call, Check.Call due, Check.Call made) {
        calls++;
        check.due(name + call, Check.answerOf(due), made);
    }

    /** Mostly within the range, at times just outside it. */
    private int within(int least, int most) {
        if (dice.nextInt(30) == 0) {
            return dice.nextBoolean() ? least - 1 : most + 1;
        }
        return least + dice.nextInt(Math.max(1, most - least + 1));
    }

    private int somePlace() {
        return within(0, places - 1);
    }

    private int someLock() {
        return dice.nextInt(3) == 0 ? -1 : within(0, 3);
    }

    private int someAct() {
        List<Integer> acts = Reference.allActs();
        return dice.nextInt(20) == 0 ? within(0, 64) : acts.get(dice.nextInt(acts.size()));
    }

    /** Few members of the first ones, so that locks can be opened often enough. */
    private int someSet(int members) {
        if (dice.nextInt(20) == 0) {
            return dice.nextInt();
        }
        int set = 1 << dice.nextInt(members);
        return dice.nextInt(3) == 0 ? set | 1 << dice.nextInt(members) : set;
    }

    /** A chain of places to the end, with locks that can mostly be opened. */
    private void buildRichly() {
        for (int i = 1 + dice.nextInt(4); i > 0; i--) {
            addSomeLock(dice.nextInt(2));
        }
        for (int i = 0; i < places - 1; i++) {
            boolean isLast = i == places - 2;
            addDoor(i, i + 1, isLast || dice.nextInt(4) == 0 ? within(0, 1) : -1, dice.nextInt(4) == 0);
        }
        for (int i = 1 + dice.nextInt(4); i > 0; i--) {
            addProp(dice.nextInt(2), dice.nextInt(3) == 0 ? within(0, 2) : -1, within(-1, 3));
        }
        for (int i = dice.nextInt(3); i > 0; i--) {
            addSwitch(dice.nextInt(2));
        }
        for (int i = dice.nextInt(4); i > 0; i--) {
            addInference(within(0, 3));
        }
    }

    private void addSomeLock(int place) {
        if (dice.nextInt(5) < 3) {
            addKeyLock(place, within(0, 2), dice.nextInt(3) > 0);
        } else {
            addLock("ccsckx".charAt(dice.nextInt(100) == 0 ? dice.nextInt(6) : dice.nextInt(4)), place);
        }
    }

    private void build() {
        int place = somePlace();
        switch (dice.nextInt(10)) {
            case 0, 1 -> addDoor(place, place + 1, someLock(), dice.nextBoolean());
            case 2 -> addDoor(place, somePlace(), someLock(), dice.nextBoolean());
            case 3, 4 -> addProp(place, someLock(), within(-1, 11));
            case 5, 6 -> addSomeLock(place);
            case 7 -> addSwitch(place);
            case 8 -> addInference(within(0, 11));
            default -> buildSeldom(place);
        }
    }

    private void buildSeldom(int place) {
        if (dice.nextBoolean()) {
            same("addPlace()", reference::addPlace, house::addPlace);
        } else {
            setEnd(place);
        }
    }

    private void setEnd(int place) {
        same("setEnd(" + place + ")", () -> reference.setEnd(place), () -> house.setEnd(place));
    }

    private void addDoor(int from, int to, int lock, boolean isSlamming) {
        same("addDoor(" + from + ", " + to + ", " + lock + ", " + isSlamming + ")",
                () -> reference.addDoor(from, to, lock, isSlamming), () -> house.addDoor(from, to, lock, isSlamming));
    }

    private void addProp(int place, int lock, int fact) {
        same("addProp(" + place + ", " + lock + ", " + fact + ")",
                () -> reference.addProp(place, lock, fact), () -> house.addProp(place, lock, fact));
    }

    private void addKeyLock(int place, int prop, boolean isBreaking) {
        same("addKeyLock(" + place + ", " + prop + ", " + isBreaking + ")",
                () -> reference.addKeyLock(place, prop, isBreaking), () -> house.addKeyLock(place, prop, isBreaking));
    }

    private void addSwitch(int place) {
        same("addSwitch(" + place + ")", () -> reference.addSwitch(place), () -> house.addSwitch(place));
    }

    private void addLock(char kind, int place) {
        int set = someSet(kind == 's' ? 2 : 4);
        same("addLock('" + kind + "', " + place + ", " + set + ")",
                () -> reference.addLock(kind, place, set), () -> house.addLock(kind, place, set));
    }

    private void addInference(int fact) {
        int facts = someSet(4);
        same("infer(" + facts + ", " + fact + ")",
                () -> reference.infer(facts, fact), () -> house.infer(facts, fact));
    }

    private void play() {
        List<Integer> possible = new ArrayList<>();
        for (int act : Reference.allActs()) {
            if (reference.can(act)) {
                possible.add(act);
            }
        }
        if (dice.nextInt(30) == 0 || possible.isEmpty() && dice.nextInt(3) > 0) {
            same("reset()", reference::reset, house::reset);
            return;
        }
        boolean isAny = dice.nextInt(20) == 0 || possible.isEmpty();
        int act = isAny ? someAct() : possible.get(dice.nextInt(possible.size()));
        same("isWrong(" + act + ")", () -> reference.isWrong(act), () -> house.isWrong(act));
        same("act(" + act + ")", () -> reference.act(act), () -> house.act(act));
    }

    private void ask() {
        int act = someAct();
        int lock = within(0, 3);
        switch (dice.nextInt(20)) {
            case 0 -> same("place()", reference::place, house::place);
            case 1 -> askOfFact(within(0, 11));
            case 2 -> askOfProp(within(0, 7));
            case 3 -> same("isOpen(" + lock + ")", () -> reference.isOpen(lock), () -> house.isOpen(lock));
            case 4, 5 -> same("can(" + act + ")", () -> reference.can(act), () -> house.can(act));
            case 6 -> same("states()", reference::states, house::states);
            case 7 -> same("deadEnds()", reference::deadEnds, house::deadEnds);
            case 8 -> same("wayLeft()", reference::wayLeft, house::wayLeft);
            case 9 -> askOfTrial(within(0, 5));
            case 10 -> same("hint()", reference::hint, house::hint);
            case 11 -> same("isWrong(" + act + ")", () -> reference.isWrong(act), () -> house.isWrong(act));
            case 12, 13 -> same("checksum()", reference::checksum, house::checksum);
            case 14 -> setSensor(lock, dice.nextBoolean());
            case 15, 16 -> same("seen(" + lock + ")", () -> reference.seen(lock), () -> house.seen(lock));
            case 17 -> same("knownShare()", reference::knownShare, house::knownShare);
            case 18 -> same("meanWay()", reference::meanWay, house::meanWay);
            default -> same("isSound()", reference::isSound, house::isSound);
        }
    }

    private void askOfFact(int fact) {
        same("knows(" + fact + ")", () -> reference.knows(fact), () -> house.knows(fact));
    }

    private void askOfProp(int prop) {
        same("propAt(" + prop + ")", () -> reference.propAt(prop), () -> house.propAt(prop));
    }

    private void askOfTrial(int acts) {
        same("canIn(" + acts + ")", () -> reference.canIn(acts), () -> house.canIn(acts));
    }

    private void setSensor(int lock, boolean works) {
        same("setSensor(" + lock + ", " + works + ")",
                () -> reference.setSensor(lock, works), () -> house.setSensor(lock, works));
    }
}
