import java.util.LinkedHashMap;
import java.util.List;
import java.util.Map;
import java.util.Random;
import java.util.function.Consumer;

/**
 * No call throws anything but what the document says, and none fails to end, for any arguments in any state: each
 * method is called with each of the edges below in each of the scenes, and then in long runs of such calls.
 */
public final class AnyCallTest {
    private static final long MOST_SECONDS = 300;
    private static final int RUNS_OF_EACH_SCENE = 12;

    /** The ends of int, of the ranges in the document, and numbers that a shift or a cast would bring into a range. */
    private static final int[] EDGES = {
        Integer.MIN_VALUE, Integer.MIN_VALUE + 1, -65536, -4096, -64, -33, -32, -31, -16, -2, -1,
        0, 1, 2, 3, 4, 5, 6, 7, 8, 9, 10, 11, 12, 13, 15, 16, 19, 20, 21, 27, 28, 31, 32, 33, 39, 40, 41, 45, 46,
        59, 60, 61, 63, 64, 65, 127, 128, 256, 266, 2000, 2001, 4095, 4096, 65535, 65536, 65546, 1 << 30,
        Integer.MAX_VALUE - 1, Integer.MAX_VALUE
    };

    /** For the methods with several parameters, where all of the edges together would be too many. */
    private static final int[] FEW_EDGES = {
        Integer.MIN_VALUE, -2, -1, 0, 1, 5, 6, 7, 8, 11, 12, 15, 16, 4095, 4096, Integer.MAX_VALUE
    };

    private static final char[] SIGNS = {'c', 's', 'k', 'C', 'S', 0, 'c' + 256, 's' + 256, 'c' - 1, 't', 0xFFFF};

    private static final boolean[] BOTH = {false, true};

    private static final Check check = new Check();
    private static final Map<String, Consumer<Twins>> scenes = scenes();

    private static volatile boolean areAllMade = false;

    public static void main(String[] args) throws InterruptedException {
        Thread calls = new Thread(AnyCallTest::callAll);
        calls.setDaemon(true);
        calls.start();
        calls.join(MOST_SECONDS * 1000);
        check.due("all calls ended", true, () -> areAllMade);
        check.end();
    }

    private static void callAll() {
        for (Map.Entry<String, Consumer<Twins>> scene : scenes.entrySet()) {
            new EachCall(scene.getKey(), scene.getValue()).makeAll();
            for (int run = 0; run < RUNS_OF_EACH_SCENE; run++) {
                callAtRandom(scene.getKey(), scene.getValue(), new Random(run));
            }
        }
        theDearestCallsEnd();
        areAllMade = true;
    }

    private static Map<String, Consumer<Twins>> scenes() {
        Map<String, Consumer<Twins>> scenes = new LinkedHashMap<>();
        scenes.put("without places", twins -> { });
        scenes.put("one place", Twins::addPlace);
        scenes.put("places alone", twins -> addPlaces(twins, 6));
        scenes.put("small", AnyCallTest::makeSmall);
        scenes.put("small, begun", twins -> begin(twins, 20, 10));
        scenes.put("small, dead", twins -> begin(twins, 20, 41));
        scenes.put("small, ended", twins -> begin(twins, 20, 40, 1));
        scenes.put("small, reset", twins -> {
            begin(twins, 20, 40, 1);
            twins.reset();
        });
        scenes.put("full", AnyCallTest::makeFull);
        scenes.put("full, begun", twins -> {
            makeFull(twins);
            play(twins, 20, 10, 60, 40, 0);
        });
        scenes.put("full, too many states", twins -> makeFull(twins, 1));
        return scenes;
    }

    private static void addPlaces(Twins twins, int places) {
        for (int i = 0; i < places; i++) {
            twins.addPlace();
        }
        twins.setEnd(places - 1);
    }

    private static void play(Twins twins, int... acts) {
        for (int act : acts) {
            twins.act(act);
        }
    }

    /** A prop that breaks by the first lock that it opens; the door through the lock 0 leads to the end. */
    private static void makeSmall(Twins twins) {
        addPlaces(twins, 3);
        twins.addKeyLock(0, 0, true);
        twins.addKeyLock(0, 0, true);
        twins.addDoor(0, 1, -1, false);
        twins.addDoor(0, 2, 0, true);
        twins.addProp(0, -1, 0);
        twins.addSwitch(1);
        twins.infer(1, 1);
        twins.setSensor(1, false);
    }

    private static void begin(Twins twins, int... acts) {
        makeSmall(twins);
        play(twins, acts);
    }

    /** As much of all as there can be; what is in the place 5, the end, makes no states. */
    private static void makeFull(Twins twins) {
        makeFull(twins, 5);
    }

    /** The doors 0 to 4 lead on through a lock each, the other ones back from the end; all of them slam. */
    private static void makeFull(Twins twins, int placeOfTheRest) {
        addPlaces(twins, 6);
        for (int i = 0; i < 3; i++) {
            twins.addKeyLock(i, i, true);
        }
        twins.addLock('c', 3, 1 | 2 | 4 | 64 | 128 | 256);
        twins.addLock('s', 4, 1);
        twins.addLock('c', placeOfTheRest, 0);
        for (int i = 0; i < 8; i++) {
            twins.addDoor(i < 5 ? i : 5, i < 5 ? i + 1 : i - 5, i < 5 ? i : -1, true);
            twins.addProp(i < 3 ? i : placeOfTheRest, -1, i);
        }
        for (int i = 0; i < 4; i++) {
            twins.addSwitch(i < 1 ? 0 : placeOfTheRest);
        }
        for (int i = 0; i < 6; i++) {
            twins.infer(1 << i, i + 6);
        }
    }

    /** Each method with each of the edges; a call that was not refused is followed by the scene anew. */
    private static final class EachCall {
        private final String name;
        private final Consumer<Twins> scene;
        private Twins twins;

        EachCall(String name, Consumer<Twins> scene) {
            this.name = name;
            this.scene = scene;
            begin();
        }

        private void begin() {
            twins = new Twins(check, name);
            scene.accept(twins);
        }

        private void made(Object answer) {
            if (twins.isSpent() || !(answer instanceof Class<?>)) {
                begin();
            }
        }

        private void asked(Object answer) {
            if (twins.isSpent()) {
                begin();
            }
        }

        void makeAll() {
            for (int edge : EDGES) {
                asked(twins.knows(edge));
                asked(twins.propAt(edge));
                asked(twins.isOpen(edge));
                asked(twins.can(edge));
                asked(twins.canIn(edge));
                asked(twins.isWrong(edge));
                asked(twins.seen(edge));
                made(twins.act(edge));
                made(twins.setEnd(edge));
                made(twins.addSwitch(edge));
                made(twins.addPlace());
                made(twins.reset());
                askAll();
                makeWith(edge);
            }
        }

        private void askAll() {
            asked(twins.place());
            asked(twins.states());
            asked(twins.deadEnds());
            asked(twins.wayLeft());
            asked(twins.hint());
            asked(twins.checksum());
            asked(twins.knownShare());
            asked(twins.meanWay());
            asked(twins.isSound());
        }

        private void makeWith(int edge) {
            for (boolean is : BOTH) {
                made(twins.setSensor(edge, is));
                for (int other : FEW_EDGES) {
                    made(twins.addKeyLock(edge, other, is));
                    made(twins.addKeyLock(other, edge, is));
                    made(twins.addDoor(edge, other, -1, is));
                    made(twins.addDoor(other, edge, -1, is));
                    made(twins.addDoor(0, other, edge, is));
                }
            }
            for (int other : FEW_EDGES) {
                made(twins.infer(edge, other));
                made(twins.infer(other, edge));
                made(twins.addProp(edge, -1, other));
                made(twins.addProp(other, edge, 0));
                made(twins.addProp(0, other, edge));
                for (char sign : SIGNS) {
                    made(twins.addLock(sign, edge, other));
                    made(twins.addLock(sign, other, edge));
                }
            }
        }
    }

    private static void callAtRandom(String scene, Consumer<Twins> maker, Random dice) {
        Twins twins = new Twins(check, scene + ", at random");
        maker.accept(twins);
        while (!twins.isSpent()) {
            int one = EDGES[dice.nextInt(EDGES.length)];
            int other = FEW_EDGES[dice.nextInt(FEW_EDGES.length)];
            int third = FEW_EDGES[dice.nextInt(FEW_EDGES.length)];
            boolean is = dice.nextBoolean();
            switch (dice.nextInt(20)) {
                case 0 -> twins.addPlace();
                case 1 -> twins.setEnd(other);
                case 2 -> twins.addDoor(dice.nextInt(6), other, third, is);
                case 3 -> twins.addProp(dice.nextInt(6), other, third);
                case 4 -> twins.addKeyLock(dice.nextInt(6), other, is);
                case 5 -> twins.addLock(SIGNS[dice.nextInt(SIGNS.length)], other, one);
                case 6 -> twins.addSwitch(other);
                case 7 -> twins.infer(one, other);
                case 8 -> twins.reset();
                case 9 -> twins.setSensor(other, is);
                case 10 -> askOfState(twins, one);
                case 11 -> askOfProofs(twins, one);
                default -> playAtRandom(twins, one, dice);
            }
        }
    }

    private static void playAtRandom(Twins twins, int edge, Random dice) {
        List<Integer> possible = twins.possibleActs();
        boolean isAny = possible.isEmpty() || dice.nextInt(4) == 0;
        int act = isAny ? edge : possible.get(dice.nextInt(possible.size()));
        twins.isWrong(act);
        twins.act(act);
        twins.checksum();
    }

    private static void askOfState(Twins twins, int edge) {
        twins.place();
        twins.knows(edge);
        twins.propAt(edge);
        twins.isOpen(edge);
        twins.can(edge);
        twins.seen(edge);
        twins.knownShare();
    }

    private static void askOfProofs(Twins twins, int edge) {
        twins.states();
        twins.deadEnds();
        twins.wayLeft();
        twins.hint();
        twins.canIn(edge);
        twins.meanWay();
        twins.isSound();
    }

    /** Runs of the calls that look furthest, each after a change of the room, so that nothing is known before. */
    private static void theDearestCallsEnd() {
        for (int doors = 0; doors <= 8; doors += 8) {
            EscapadeHouse house = withAllInOnePlace(doors);
            for (int i = 0; i < 240; i++) {
                house.setEnd(5);
                check.due("canIn(5) of all in one place", false, () -> house.canIn(5));
            }
        }
        EscapadeHouse house = Rooms.of2000States();
        for (int i = 0; i < 240; i++) {
            house.setEnd(2);
            check.due("states() of 2000", 2000, house::states);
        }
    }

    /** The doors lead to the place 1, the end is another one. */
    private static EscapadeHouse withAllInOnePlace(int doors) {
        EscapadeHouse house = Rooms.withPlaces(6);
        for (int i = 0; i < 6; i++) {
            house.addLock('c', 0, 0);
            house.infer(1 << i, i + 1);
        }
        for (int i = 0; i < 8; i++) {
            house.addProp(0, -1, i);
        }
        for (int i = 0; i < 4; i++) {
            house.addSwitch(0);
        }
        for (int i = 0; i < doors; i++) {
            house.addDoor(0, 1, -1, false);
        }
        return house;
    }
}
