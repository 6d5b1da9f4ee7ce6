import java.util.List;
import java.util.Random;

/** Calls of twins from a fixed seed; their arguments are mostly within the ranges, at times just outside them. */
final class RandomCalls {
    private final Random dice;
    private final Twins twins;
    private final int places;

    RandomCalls(int seed, Twins twins) {
        this.dice = new Random(seed);
        this.twins = twins;
        this.places = seed % 50 == 0 ? seed % 3 : 2 + dice.nextInt(5);
    }

    /** From 0 to below the bound. */
    int roll(int bound) {
        return dice.nextInt(bound);
    }

    private int within(int least, int most) {
        if (dice.nextInt(30) == 0) {
            return dice.nextBoolean() ? least - 1 : most + 1;
        }
        return least + dice.nextInt(Math.max(1, most - least + 1));
    }

    private int somePlace() {
        return within(0, places - 1);
    }

    private int someLock() {
        return dice.nextInt(3) == 0 ? -1 : within(0, 3);
    }

    private int someAct() {
        List<Integer> acts = Reference.allActs();
        return dice.nextInt(20) == 0 ? within(0, 64) : acts.get(dice.nextInt(acts.size()));
    }

    /** Few members of the first ones, so that locks can be opened often enough. */
    private int someSet(int members) {
        if (dice.nextInt(20) == 0) {
            return dice.nextInt();
        }
        int set = 1 << dice.nextInt(members);
        return dice.nextInt(3) == 0 ? set | 1 << dice.nextInt(members) : set;
    }

    /** Places alone, the last one the end. */
    void buildPlaces() {
        for (int i = 0; i < places; i++) {
            twins.addPlace();
        }
        endInTheLastPlace();
    }

    void endInTheLastPlace() {
        twins.setEnd(places - 1);
    }

    /** A chain of places to the end, with locks that can mostly be opened. */
    void buildRichly() {
        for (int i = 1 + dice.nextInt(4); i > 0; i--) {
            addSomeLock(dice.nextInt(2));
        }
        for (int i = 0; i < places - 1; i++) {
            boolean isLast = i == places - 2;
            int lock = isLast || dice.nextInt(4) == 0 ? within(0, 1) : -1;
            twins.addDoor(i, i + 1, lock, dice.nextInt(4) == 0);
        }
        for (int i = 1 + dice.nextInt(4); i > 0; i--) {
            twins.addProp(dice.nextInt(2), dice.nextInt(3) == 0 ? within(0, 2) : -1, within(-1, 3));
        }
        for (int i = dice.nextInt(3); i > 0; i--) {
            twins.addSwitch(dice.nextInt(2));
        }
        for (int i = dice.nextInt(4); i > 0; i--) {
            twins.infer(someSet(4), within(0, 3));
        }
    }

    private void addSomeLock(int place) {
        if (dice.nextInt(5) < 3) {
            twins.addKeyLock(place, within(0, 2), dice.nextInt(3) > 0);
            return;
        }
        char kind = "ccsckx".charAt(dice.nextInt(100) == 0 ? dice.nextInt(6) : dice.nextInt(4));
        twins.addLock(kind, place, someSet(kind == 's' ? 2 : 4));
    }

    /** Adds one thing to the room, or changes its end. */
    void build() {
        build(dice.nextInt(11));
    }

    /** Adds as many as can be, and one more. */
    void buildMuch() {
        int sort = dice.nextInt(11);
        for (int i = 0; i < 9; i++) {
            build(sort);
        }
    }

    private void build(int sort) {
        int place = somePlace();
        switch (sort) {
            case 0, 1 -> twins.addDoor(place, place + 1, someLock(), dice.nextBoolean());
            case 2 -> twins.addDoor(place, somePlace(), someLock(), dice.nextBoolean());
            case 3, 4 -> twins.addProp(place, someLock(), within(-1, 11));
            case 5, 6 -> addSomeLock(place);
            case 7 -> twins.addSwitch(place);
            case 8 -> twins.infer(someSet(4), within(0, 11));
            case 9 -> twins.setEnd(place);
            default -> twins.addPlace();
        }
    }

    /** Asks whether an act is wrong, and does it. */
    void play() {
        List<Integer> possible = twins.possibleActs();
        boolean isAny = dice.nextInt(20) == 0 || possible.isEmpty();
        int act = isAny ? someAct() : possible.get(dice.nextInt(possible.size()));
        twins.isWrong(act);
        twins.act(act);
    }

    /** Does what the hint says; answers whether there was one. */
    boolean playByHint() {
        Object hint = twins.hint();
        if (hint instanceof Integer act) {
            twins.act(act);
            return true;
        }
        return false;
    }

    void ask() {
        switch (dice.nextInt(5)) {
            case 0 -> askOfState();
            case 1 -> askOfProofs();
            case 2 -> askOfActs();
            case 3 -> askOfDesk();
            default -> askOfFigures();
        }
    }

    void askOfState() {
        switch (dice.nextInt(4)) {
            case 0 -> twins.place();
            case 1 -> twins.knows(within(0, 11));
            case 2 -> twins.propAt(within(0, 7));
            default -> twins.isOpen(within(0, 3));
        }
    }

    void askOfProofs() {
        switch (dice.nextInt(5)) {
            case 0 -> twins.states();
            case 1 -> twins.deadEnds();
            case 2 -> twins.wayLeft();
            case 3 -> twins.hint();
            default -> twins.canIn(within(0, 5));
        }
    }

    void askOfActs() {
        if (dice.nextBoolean()) {
            twins.can(someAct());
        } else {
            twins.isWrong(someAct());
        }
    }

    void askOfDesk() {
        if (dice.nextInt(3) == 0) {
            twins.setSensor(within(0, 3), dice.nextBoolean());
        } else {
            twins.seen(within(0, 3));
        }
    }

    void askOfFigures() {
        switch (dice.nextInt(4)) {
            case 0 -> twins.checksum();
            case 1 -> twins.knownShare();
            case 2 -> twins.meanWay();
            default -> twins.isSound();
        }
    }
}
