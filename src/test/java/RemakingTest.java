import java.util.Map;
import java.util.TreeMap;

/**
 * All promises over long runs: a room is made, played, reset and made on, again and again until the calls are spent.
 * All that the document lets a method answer must have come up in these runs, so that they pass none of it by.
 */
public final class RemakingTest {
    private static final int SEEDS = 1000;
    private static final int LEAST_TIMES = 10;

    private static final String INDEX = "IndexOutOfBoundsException";
    private static final String ARGUMENT = "IllegalArgumentException";
    private static final String STATE = "IllegalStateException";
    private static final String UNSUPPORTED = "UnsupportedOperationException";
    private static final String ELEMENT = "NoSuchElementException";
    private static final String NUMBER = "a number";

    private static final String[][] OUTCOMES = {
        {"addPlace", NUMBER, STATE, UNSUPPORTED},
        {"setEnd", NUMBER, INDEX, STATE},
        {"addDoor", NUMBER, INDEX, ARGUMENT, STATE, UNSUPPORTED},
        {"addProp", NUMBER, INDEX, ARGUMENT, STATE, UNSUPPORTED},
        {"addKeyLock", NUMBER, INDEX, ARGUMENT, STATE, UNSUPPORTED},
        {"addLock", NUMBER, ARGUMENT, INDEX, STATE, UNSUPPORTED},
        {"addSwitch", NUMBER, INDEX, STATE, UNSUPPORTED},
        {"infer", NUMBER, ARGUMENT, STATE, UNSUPPORTED},
        {"act", "true", "false", ARGUMENT, UNSUPPORTED},
        {"reset", NUMBER},
        {"place", NUMBER},
        {"knows", "true", "false", ARGUMENT},
        {"propAt", "p", "h", "x", INDEX},
        {"isOpen", "true", "false", INDEX},
        {"can", "true", "false", ARGUMENT},
        {"states", NUMBER, UNSUPPORTED},
        {"deadEnds", NUMBER, UNSUPPORTED},
        {"wayLeft", NUMBER, UNSUPPORTED, ELEMENT},
        {"canIn", "true", "false", ARGUMENT},
        {"hint", NUMBER, UNSUPPORTED, ELEMENT, STATE},
        {"isWrong", "true", "false", ARGUMENT, UNSUPPORTED},
        {"setSensor", "true", "false", INDEX},
        {"seen", "o", "s", INDEX},
        {"checksum", NUMBER},
        {"knownShare", NUMBER},
        {"meanWay", NUMBER, UNSUPPORTED, "ArithmeticException"},
        {"isSound", "true"},
    };

    public static void main(String[] args) {
        Check check = new Check();
        Map<String, Integer> outcomes = new TreeMap<>();
        for (int seed = 0; seed < SEEDS && check.isRight(); seed++) {
            if (seed % 10 == 0 || isWorthPlaying(seed)) {
                run(seed, new Twins(check, "run " + seed, outcomes));
            }
        }
        for (String[] method : OUTCOMES) {
            for (int i = 1; i < method.length; i++) {
                int times = outcomes.getOrDefault(method[0] + " " + method[i], 0);
                check.due(method[0] + " answered often enough " + method[i], true, () -> times >= LEAST_TIMES);
            }
        }
        check.end();
    }

    /** Rooms made at random are mostly dead, or left by a step. */
    private static boolean isWorthPlaying(int seed) {
        Twins twins = new Twins(new Check(), "room " + seed);
        make(new RandomCalls(seed, twins));
        return twins.dueWay() >= 4;
    }

    private static void make(RandomCalls calls) {
        calls.buildPlaces();
        calls.buildRichly();
    }

    private static void run(int seed, Twins twins) {
        RandomCalls calls = new RandomCalls(seed, twins);
        make(calls);
        while (!twins.isSpent()) {
            play(calls, twins);
            twins.reset();
            askAsAtFirst(calls, twins);
            makeOn(calls);
        }
    }

    /** Now as the hints say, now at random; to the end and against its wall, or until the group gives up. */
    private static void play(RandomCalls calls, Twins twins) {
        boolean isHinted = calls.roll(2) > 0;
        for (int i = calls.roll(20); i > 0 && !twins.isSpent(); i--) {
            if (twins.possibleActs().isEmpty() && calls.roll(3) > 0) {
                break;
            }
            if (!isHinted || calls.roll(6) == 0 || !calls.playByHint()) {
                calls.play();
            }
            twins.checksum();
            calls.ask();
            calls.askOfState();
        }
        calls.build();
    }

    /** What a reset leaves of the game is asked before the room is made on. */
    private static void askAsAtFirst(RandomCalls calls, Twins twins) {
        twins.checksum();
        twins.isSound();
        calls.askOfState();
        calls.askOfProofs();
        calls.askOfDesk();
        if (calls.roll(4) == 0) {
            twins.reset();
        }
    }

    private static void makeOn(RandomCalls calls) {
        for (int i = calls.roll(4); i > 0; i--) {
            calls.build();
            calls.askOfProofs();
            calls.askOfFigures();
        }
        if (calls.roll(30) == 0) {
            calls.buildMuch();
        }
        if (calls.roll(2) == 0) {
            calls.endInTheLastPlace();
        }
    }
}
