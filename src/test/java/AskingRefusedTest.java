import java.util.ArrayList;
import java.util.List;
import java.util.NoSuchElementException;
import java.util.function.Function;
import java.util.function.Supplier;

/**
 * Promises 10, 13 to 24 and 27: each "Throws .." sentence of play, proofs, desk and figures, in each state where it
 * applies. The exception that is documented first is due, and nothing is changed by it.
 */
public final class AskingRefusedTest {
    private static final Class<?> NO_INDEX = IndexOutOfBoundsException.class;
    private static final Class<?> NO_ARGUMENT = IllegalArgumentException.class;
    private static final Class<?> NO_STATE = IllegalStateException.class;
    private static final Class<?> NOT_DONE = UnsupportedOperationException.class;
    private static final Class<?> NO_WAY = NoSuchElementException.class;
    private static final Class<?> NO_MEAN = ArithmeticException.class;

    private static final int LEAST = Integer.MIN_VALUE;
    private static final int GREATEST = Integer.MAX_VALUE;

    private static final Check check = new Check();

    public static void main(String[] args) {
        inEachState();
        deadStatesHaveNoWay();
        theEndHasNoHint();
        noMeanOfDeadStatesAlone();
        tooManyStates();
        tooManyStatesComeBeforeTheState();
        check.end();
    }

    /** A state of a room: how it comes up, which acts can be done in it, and how much the room has. */
    private static final class Scene {
        final String name;
        final Supplier<EscapadeHouse> maker;
        final List<Integer> possible;
        final int props;
        final int locks;
        final List<String> account;

        Scene(String name, Supplier<EscapadeHouse> maker, List<Integer> possible, int props, int locks) {
            this.name = name;
            this.maker = maker;
            this.possible = possible;
            this.props = props;
            this.locks = locks;
            this.account = Account.of(maker.get());
        }

        void refused(String call, Class<?> refusal, Function<EscapadeHouse, Object> made) {
            check.refused(call + " " + name, refusal, maker, account, made);
        }
    }

    /**
     * A prop that breaks, with the fact 0, and two locks that it opens; the lock 1 opens by this fact. The doors lead
     * to the place 1, through the lock 0 into the end, and from the place 1 through the lock 1 into the end.
     */
    private static EscapadeHouse begun() {
        EscapadeHouse house = new EscapadeHouse();
        house.addPlace();
        house.addPlace();
        house.addPlace();
        house.setEnd(2);
        house.addKeyLock(0, 0, true);
        house.addLock('c', 0, 1);
        house.addKeyLock(0, 0, true);
        house.addDoor(0, 1, -1, false);
        house.addDoor(0, 2, 0, true);
        house.addDoor(1, 2, 1, false);
        house.addProp(0, -1, 0);
        house.addProp(1, 2, -1);
        house.addSwitch(0);
        house.addSwitch(1);
        house.infer(1, 5);
        house.setSensor(2, false);
        return house;
    }

    private static EscapadeHouse after(EscapadeHouse house, int... acts) {
        for (int act : acts) {
            house.act(act);
        }
        return house;
    }

    private static List<Scene> scenes() {
        List<Scene> scenes = new ArrayList<>();
        scenes.add(new Scene("without places", EscapadeHouse::new, List.of(), 0, 0));
        scenes.add(new Scene("at first", AskingRefusedTest::begun, List.of(0, 10, 20, 60), 2, 3));
        scenes.add(new Scene("with a prop", () -> after(begun(), 20, 10, 41), List.of(0, 10, 40, 42, 60), 2, 3));
        scenes.add(new Scene("at the place 1", () -> after(begun(), 10, 41, 0), List.of(0, 2, 10, 61), 2, 3));
        scenes.add(new Scene("when dead", () -> after(begun(), 20, 42), List.of(0, 10, 60), 2, 3));
        scenes.add(new Scene("in the end", () -> after(begun(), 20, 40, 1), List.of(), 2, 3));
        return scenes;
    }

    private static void inEachState() {
        for (Scene scene : scenes()) {
            actsRefuse(scene);
            factsRefuse(scene);
            propsRefuse(scene);
            locksRefuse(scene);
            trialsRefuse(scene);
        }
    }

    private static List<Integer> numbers() {
        List<Integer> numbers = new ArrayList<>(List.of(LEAST, LEAST + 10, -64, GREATEST - 1, GREATEST));
        for (int number = -10; number < 100; number++) {
            numbers.add(number);
        }
        return numbers;
    }

    private static void actsRefuse(Scene scene) {
        for (int act : numbers()) {
            boolean isAct = Reference.allActs().contains(act);
            boolean isPossible = scene.possible.contains(act);
            if (!isAct) {
                scene.refused("16: can(" + act + ")", NO_ARGUMENT, house -> house.can(act));
            } else {
                EscapadeHouse house = scene.maker.get();
                check.due("16: can(" + act + ") " + scene.name, isPossible, () -> house.can(act));
            }
            if (!isPossible) {
                Class<?> refusal = isAct ? NOT_DONE : NO_ARGUMENT;
                scene.refused("10: act(" + act + ")", refusal, house -> house.act(act));
                scene.refused("22: isWrong(" + act + ")", refusal, house -> house.isWrong(act));
            }
        }
    }

    private static void factsRefuse(Scene scene) {
        for (int fact : new int[] {LEAST, -1, 12, GREATEST}) {
            scene.refused("13: knows(" + fact + ")", NO_ARGUMENT, house -> house.knows(fact));
        }
    }

    private static void propsRefuse(Scene scene) {
        for (int prop : new int[] {LEAST, -1, scene.props, 7, 8, GREATEST}) {
            scene.refused("14: propAt(" + prop + ")", NO_INDEX, house -> house.propAt(prop));
        }
    }

    private static void locksRefuse(Scene scene) {
        for (int lock : new int[] {LEAST, -1, scene.locks, 5, 6, GREATEST}) {
            scene.refused("15: isOpen(" + lock + ")", NO_INDEX, house -> house.isOpen(lock));
            scene.refused("23: setSensor(" + lock + ", false)", NO_INDEX, house -> house.setSensor(lock, false));
            scene.refused("23: setSensor(" + lock + ", true)", NO_INDEX, house -> house.setSensor(lock, true));
            scene.refused("24: seen(" + lock + ")", NO_INDEX, house -> house.seen(lock));
        }
    }

    private static void trialsRefuse(Scene scene) {
        for (int acts : new int[] {LEAST, -1, 6, GREATEST}) {
            scene.refused("20: canIn(" + acts + ")", NO_ARGUMENT, house -> house.canIn(acts));
        }
    }

    private static void deadStatesHaveNoWay() {
        Supplier<EscapadeHouse> dead = () -> after(begun(), 20, 42);
        check.due("19: wayLeft() before it is dead", 2, after(begun(), 20)::wayLeft);
        check.due("21: hint() before it is dead", 40, after(begun(), 20)::hint);
        check.refused("19: wayLeft() when dead", NO_WAY, dead, EscapadeHouse::wayLeft);
        check.refused("21: hint() when dead", NO_WAY, dead, EscapadeHouse::hint);
    }

    private static void theEndHasNoHint() {
        Supplier<EscapadeHouse> ended = () -> after(begun(), 20, 40, 1);
        check.due("21: hint() before the end", 1, after(begun(), 20, 40)::hint);
        check.refused("21: hint() in the end", NO_STATE, ended, EscapadeHouse::hint);
        check.refused("21: hint() without places", NO_STATE, EscapadeHouse::new, EscapadeHouse::hint);
        check.due("19: wayLeft() in the end", 0, ended.get()::wayLeft);
        check.due("22: isWrong(10) before the end", false, () -> after(begun(), 20, 40).isWrong(10));
    }

    /** The end has no door. */
    private static EscapadeHouse allDead() {
        EscapadeHouse house = new EscapadeHouse();
        house.addPlace();
        house.addPlace();
        house.setEnd(1);
        house.addSwitch(0);
        return house;
    }

    private static void noMeanOfDeadStatesAlone() {
        Supplier<EscapadeHouse> turned = () -> after(allDead(), 60);
        Supplier<EscapadeHouse> begun = AskingRefusedTest::allDead;
        check.refused("27: meanWay() of dead states alone", NO_MEAN, begun, EscapadeHouse::meanWay);
        check.refused("27: meanWay() of dead states alone, after an act", NO_MEAN, turned, EscapadeHouse::meanWay);
        EscapadeHouse living = allDead();
        living.addDoor(0, 1, -1, true);
        check.due("27: meanWay() of a single way", (1 + 1 + 0 + 0) / 4.0, living::meanWay);
        check.due("27: meanWay() in a dead state of others that are not", true,
                () -> after(begun(), 20, 42).meanWay() > 0);
    }

    private static void tooManyStates() {
        refusesAllProofs("of 2001 states", Rooms::of2001States, 0);
        refusesAllProofs("of 2001 states, later", () -> after(Rooms.of2001States(), 0, 20), 42);
        refusesAllProofs("with a switch more than 2000 states", Rooms::ofOneSwitchMore, 0);
    }

    private static void refusesAllProofs(String name, Supplier<EscapadeHouse> maker, int act) {
        check.due("16: can(" + act + ") " + name, true, () -> maker.get().can(act));
        check.refused("17: states() " + name, NOT_DONE, maker, EscapadeHouse::states);
        check.refused("18: deadEnds() " + name, NOT_DONE, maker, EscapadeHouse::deadEnds);
        check.refused("19: wayLeft() " + name, NOT_DONE, maker, EscapadeHouse::wayLeft);
        check.refused("21: hint() " + name, NOT_DONE, maker, EscapadeHouse::hint);
        check.refused("22: isWrong(" + act + ") " + name, NOT_DONE, maker, house -> house.isWrong(act));
        check.refused("22: isWrong(7), which cannot be done, " + name, NOT_DONE, maker, house -> house.isWrong(7));
        check.refused("22: isWrong(8), no act, " + name, NO_ARGUMENT, maker, house -> house.isWrong(8));
        check.refused("27: meanWay() " + name, NOT_DONE, maker, EscapadeHouse::meanWay);
        check.due("28: isSound() " + name, true, maker.get()::isSound);
    }

    /** Where too many states can come up, this is thrown even in a dead state, in the end, and if all are dead. */
    private static void tooManyStatesComeBeforeTheState() {
        Supplier<EscapadeHouse> dead = () -> after(Rooms.ofOneSwitchMore(), 20, 42);
        check.due("14: propAt(0) in the dead state", 'x', () -> dead.get().propAt(0));
        check.refused("19: wayLeft() of too many, when dead", NOT_DONE, dead, EscapadeHouse::wayLeft);
        check.refused("21: hint() of too many, when dead", NOT_DONE, dead, EscapadeHouse::hint);

        Supplier<EscapadeHouse> ended = () -> after(Rooms.of2001States(), 0, 42, 1, 2);
        check.due("20: canIn(0) in the end", true, () -> ended.get().canIn(0));
        check.refused("21: hint() of too many, in the end", NOT_DONE, ended, EscapadeHouse::hint);
        check.refused("19: wayLeft() of too many, in the end", NOT_DONE, ended, EscapadeHouse::wayLeft);

        Supplier<EscapadeHouse> allDead = Rooms::ofTooManyDeadStates;
        check.refused("27: meanWay() of too many, all dead", NOT_DONE, allDead, EscapadeHouse::meanWay);
        check.refused("21: hint() of too many, all dead", NOT_DONE, allDead, EscapadeHouse::hint);
    }
}
