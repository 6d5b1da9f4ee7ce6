import java.util.ArrayList;
import java.util.List;
import java.util.function.Function;

/**
 * Promises 2 to 9: each "Throws .." sentence with all others that can apply at once. The exception that is documented
 * first is due, and nothing is changed by it; where none applies, the call answers.
 */
public final class AddingRefusedTest {
    private static final Class<?> NO_INDEX = IndexOutOfBoundsException.class;
    private static final Class<?> NO_ARGUMENT = IllegalArgumentException.class;
    private static final Class<?> NO_STATE = IllegalStateException.class;
    private static final Class<?> NOT_DONE = UnsupportedOperationException.class;

    private static final int PLACES = 0;
    private static final int DOORS = 1;
    private static final int PROPS = 2;
    private static final int LOCKS = 3;
    private static final int SWITCHES = 4;
    private static final int INFERENCES = 5;
    private static final int[] MOST = {6, 8, 8, 6, 4, 6};

    private static final Check check = new Check();

    private enum Past {
        NONE, ACTED, LOOKED_TWICE, TURNED_BACK, REFUSED, TAKEN_BACK;

        boolean hasActed() {
            return this == ACTED || this == LOOKED_TWICE || this == TURNED_BACK;
        }
    }

    public static void main(String[] args) {
        theRoomsHaveProofs();
        placesRefuse();
        theEndRefuses();
        doorsRefuse();
        propsRefuse();
        keyLocksRefuse();
        locksRefuse();
        switchesRefuse();
        inferencesRefuse();
        check.end();
    }

    /** A room with so many of each kind, and what the group did in it. */
    private static final class Setting {
        final int[] counts;
        final Past past;
        final List<String> account;

        Setting(int[] counts, Past past) {
            this.counts = counts;
            this.past = past;
            this.account = Account.of(make());
        }

        EscapadeHouse make() {
            EscapadeHouse house = room(counts);
            play(house, past);
            return house;
        }

        boolean isFull(int kind) {
            return counts[kind] == MOST[kind];
        }

        boolean has(int kind, int number) {
            return number >= 0 && number < counts[kind];
        }

        /** The last and the first that are allowed, and those behind them. */
        int[] around(int kind) {
            return new int[] {Integer.MIN_VALUE, -1, 0, counts[kind] - 1, counts[kind], Integer.MAX_VALUE};
        }

        int[] aroundOrNone(int kind) {
            return new int[] {-2, -1, 0, counts[kind] - 1, counts[kind]};
        }

        /** What comes last in the document of each of these calls. */
        Class<?> refusalOfAdding(int kind) {
            return past.hasActed() ? NO_STATE : isFull(kind) ? NOT_DONE : null;
        }

        void due(String call, Class<?> refusal, Object answer, Function<EscapadeHouse, Object> made) {
            String name = call + " " + past + (isFull(PLACES) ? " with 6 places" : "");
            if (refusal != null) {
                check.refused(name, refusal, this::make, account, made);
            } else {
                EscapadeHouse house = make();
                check.due(name, answer, () -> made.apply(house));
            }
        }
    }

    /** One short of the most of this kind where all others are at their most, and the other way round. */
    private static List<Setting> settingsOf(int kind) {
        List<Setting> settings = new ArrayList<>();
        for (Past past : Past.values()) {
            for (int isFull = 0; isFull < 2; isFull++) {
                int[] counts = new int[MOST.length];
                for (int i = 0; i < counts.length; i++) {
                    counts[i] = MOST[i] - (i == kind ? 1 - isFull : isFull);
                }
                settings.add(new Setting(counts, past));
            }
        }
        return settings;
    }

    private static EscapadeHouse room(int[] counts) {
        EscapadeHouse house = new EscapadeHouse();
        int end = counts[PLACES] - 1;
        for (int i = 0; i < counts[PLACES]; i++) {
            house.addPlace();
        }
        house.setEnd(end);
        for (int i = 0; i < counts[LOCKS]; i++) {
            addLock(house, i, end);
        }
        for (int i = 0; i < counts[DOORS]; i++) {
            house.addDoor(i < 2 ? i : 0, i == 1 ? end : 1, i < 3 ? i : -1, i > 1);
        }
        for (int i = 0; i < counts[PROPS]; i++) {
            house.addProp(i < 3 ? 0 : end, i == 1 ? 1 : -1, i);
        }
        for (int i = 0; i < counts[SWITCHES]; i++) {
            house.addSwitch(i < 2 ? i : end);
        }
        for (int i = 0; i < counts[INFERENCES]; i++) {
            house.infer(1 << i, i + 6);
        }
        return house;
    }

    private static void addLock(EscapadeHouse house, int number, int end) {
        int home = number < 3 ? 0 : end;
        if (number % 3 == 0) {
            house.addKeyLock(home, number, number == 0);
        } else {
            house.addLock(number % 3 == 1 ? 'c' : 's', home, 1);
        }
    }

    private static void play(EscapadeHouse house, Past past) {
        switch (past) {
            case NONE -> { }
            case ACTED -> act(house);
            case LOOKED_TWICE -> {
                house.act(10);
                house.act(10);
            }
            case TURNED_BACK -> {
                house.act(60);
                house.act(60);
            }
            case REFUSED -> {
                Check.answerOf(() -> house.act(40));
                Check.answerOf(() -> house.act(64));
            }
            case TAKEN_BACK -> {
                act(house);
                house.reset();
            }
        }
    }

    private static void act(EscapadeHouse house) {
        house.setSensor(0, false);
        for (int act : new int[] {60, 20, 40, 10}) {
            house.act(act);
        }
        house.setSensor(1, false);
    }

    /** Or the accounts would tell little of them. */
    private static void theRoomsHaveProofs() {
        for (int kind = 0; kind < MOST.length; kind++) {
            for (Setting setting : settingsOf(kind)) {
                EscapadeHouse house = setting.make();
                check.due("a room of many states", true, () -> house.states() > 100);
                check.due("a room of some dead ends", true, () -> house.deadEnds() > 0);
                check.due("calls of an account", true, () -> setting.account.size() < 440);
            }
        }
    }

    private static void placesRefuse() {
        for (Setting setting : settingsOf(PLACES)) {
            setting.due("2: addPlace()", setting.refusalOfAdding(PLACES), 5, EscapadeHouse::addPlace);
        }
    }

    private static void theEndRefuses() {
        for (Setting setting : settingsOf(PLACES)) {
            for (int place : setting.around(PLACES)) {
                Class<?> refusal = !setting.has(PLACES, place) ? NO_INDEX : setting.past.hasActed() ? NO_STATE : null;
                int before = setting.counts[PLACES] - 1;
                setting.due("3: setEnd(" + place + ")", refusal, before, house -> house.setEnd(place));
            }
        }
    }

    private static void doorsRefuse() {
        for (Setting setting : settingsOf(DOORS)) {
            for (int from : setting.around(PLACES)) {
                for (int to : setting.around(PLACES)) {
                    for (int lock : setting.aroundOrNone(LOCKS)) {
                        doorRefuses(setting, from, to, lock);
                    }
                }
            }
        }
    }

    private static void doorRefuses(Setting setting, int from, int to, int lock) {
        boolean hasAll = setting.has(PLACES, from) && setting.has(PLACES, to)
                && (lock == -1 || setting.has(LOCKS, lock));
        Class<?> refusal = !hasAll ? NO_INDEX : from == to ? NO_ARGUMENT : setting.refusalOfAdding(DOORS);
        setting.due("4: addDoor(" + from + ", " + to + ", " + lock + ", false)", refusal, 7,
                house -> house.addDoor(from, to, lock, false));
    }

    private static void propsRefuse() {
        for (Setting setting : settingsOf(PROPS)) {
            for (int place : setting.around(PLACES)) {
                for (int lock : setting.aroundOrNone(LOCKS)) {
                    for (int fact : new int[] {Integer.MIN_VALUE, -2, -1, 0, 11, 12, Integer.MAX_VALUE}) {
                        propRefuses(setting, place, lock, fact);
                    }
                }
            }
        }
    }

    private static void propRefuses(Setting setting, int place, int lock, int fact) {
        boolean hasAll = setting.has(PLACES, place) && (lock == -1 || setting.has(LOCKS, lock));
        boolean isFact = fact >= -1 && fact <= 11;
        Class<?> refusal = !hasAll ? NO_INDEX : !isFact ? NO_ARGUMENT : setting.refusalOfAdding(PROPS);
        setting.due("5: addProp(" + place + ", " + lock + ", " + fact + ")", refusal, 7,
                house -> house.addProp(place, lock, fact));
    }

    private static void keyLocksRefuse() {
        for (Setting setting : settingsOf(LOCKS)) {
            for (int place : setting.around(PLACES)) {
                for (int prop : new int[] {Integer.MIN_VALUE, -1, 0, 7, 8, Integer.MAX_VALUE}) {
                    boolean isInRange = prop >= 0 && prop <= 7;
                    Class<?> refusal = !setting.has(PLACES, place) ? NO_INDEX : !isInRange ? NO_ARGUMENT
                            : setting.refusalOfAdding(LOCKS);
                    setting.due("6: addKeyLock(" + place + ", " + prop + ", true)", refusal, 5,
                            house -> house.addKeyLock(place, prop, true));
                }
            }
        }
    }

    private static void locksRefuse() {
        int[] sets = {Integer.MIN_VALUE, -1, 0, 1, 15, 16, 4095, 4096, Integer.MAX_VALUE};
        for (Setting setting : settingsOf(LOCKS)) {
            for (char kind : "csk".toCharArray()) {
                for (int place : setting.around(PLACES)) {
                    for (int set : sets) {
                        lockRefuses(setting, kind, place, set);
                    }
                }
            }
        }
    }

    private static void lockRefuses(Setting setting, char kind, int place, int set) {
        boolean isFitting = kind == 'c' && set >= 0 && set <= 4095 || kind == 's' && set >= 0 && set <= 15;
        Class<?> refusal = !isFitting ? NO_ARGUMENT : !setting.has(PLACES, place) ? NO_INDEX
                : setting.refusalOfAdding(LOCKS);
        setting.due("7: addLock('" + kind + "', " + place + ", " + set + ")", refusal, 5,
                house -> house.addLock(kind, place, set));
    }

    private static void switchesRefuse() {
        for (Setting setting : settingsOf(SWITCHES)) {
            for (int place : setting.around(PLACES)) {
                Class<?> refusal = !setting.has(PLACES, place) ? NO_INDEX : setting.refusalOfAdding(SWITCHES);
                setting.due("8: addSwitch(" + place + ")", refusal, 3, house -> house.addSwitch(place));
            }
        }
    }

    private static void inferencesRefuse() {
        for (Setting setting : settingsOf(INFERENCES)) {
            for (int facts : new int[] {Integer.MIN_VALUE, -1, 0, 1, 4095, 4096, Integer.MAX_VALUE}) {
                for (int fact : new int[] {Integer.MIN_VALUE, -1, 0, 11, 12, Integer.MAX_VALUE}) {
                    boolean isFitting = facts >= 1 && facts <= 4095 && fact >= 0 && fact <= 11;
                    Class<?> refusal = !isFitting ? NO_ARGUMENT : setting.refusalOfAdding(INFERENCES);
                    setting.due("9: infer(" + facts + ", " + fact + ")", refusal, 6,
                            house -> house.infer(facts, fact));
                }
            }
        }
    }
}
