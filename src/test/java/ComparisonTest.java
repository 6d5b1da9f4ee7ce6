/** All promises: long runs of calls in any order, answered by the class and by the reference alike. */
public final class ComparisonTest {
    private static final int RUNS = 600;

    public static void main(String[] args) {
        Check check = new Check();
        for (int seed = 0; seed < RUNS && check.isRight(); seed++) {
            run(seed, new Twins(check, "run " + seed));
        }
        check.end();
    }

    private static void run(int seed, Twins twins) {
        RandomCalls calls = new RandomCalls(seed, twins);
        calls.buildPlaces();
        if (calls.roll(10) > 0) {
            calls.buildRichly();
        }
        for (int i = calls.roll(8); i > 0; i--) {
            calls.build();
        }
        while (!twins.isSpent()) {
            int die = calls.roll(100);
            if (die < 2) {
                twins.reset();
            } else if (die < 5) {
                calls.build();
            } else if (die < 40) {
                calls.play();
            } else {
                calls.ask();
            }
        }
    }
}
