import java.util.ArrayList;
import java.util.Arrays;
import java.util.NoSuchElementException;

/** A maker and master of a locked room; what each call promises stands in the project's document. */
public final class EscapadeHouse {
    private static final int MOST_PLACES = 6;
    private static final int MOST_DOORS = 8;
    private static final int MOST_PROPS = 8;
    private static final int MOST_LOCKS = 6;
    private static final int MOST_SWITCHES = 4;
    private static final int MOST_INFERENCES = 6;
    private static final int MOST_STATES = 2000;
    private static final int MOST_ACTS_TRIED = 5;

    private static final int FACTS = 12;
    private static final int ALL_FACTS = (1 << FACTS) - 1;
    private static final int ALL_SWITCHES = (1 << MOST_SWITCHES) - 1;
    private static final int ALL_LOCKS = (1 << MOST_LOCKS) - 1;

    private static final int NONE = -1;

    // More than double the states, so that a search among the slots is short.
    private static final int SLOT_BITS = 12;
    private static final int SLOTS = 1 << SLOT_BITS;
    private static final long SPREAD = 0x9E3779B97F4A7C15L;

    private static final int LOOK = 10;
    private static final int FIRST_PROP = 20;
    private static final int FIRST_LOCK = 40;
    private static final int FIRST_SWITCH = 60;

    /** All acts by their numbers; the doors come first, which the trial counts on. */
    private static final int[] ACTS = {
        0, 1, 2, 3, 4, 5, 6, 7, 10,
        20, 21, 22, 23, 24, 25, 26, 27,
        40, 41, 42, 43, 44, 45,
        60, 61, 62, 63
    };

    private final Room room;
    private final Desk desk;
    private final Trial trial;
    private final Proof proof;
    private boolean isProven;
    private long state;
    private int actCount;

    public EscapadeHouse() {
        room = new Room();
        desk = new Desk();
        trial = new Trial();
        proof = new Proof();
        isProven = false;
        state = State.BEGINNING;
        actCount = 0;
    }

    // The room.

    public int addPlace() throws IllegalStateException, UnsupportedOperationException {
        refuseAfterActs();
        refuseIfFull(room.placeCount, MOST_PLACES);
        room.placeCount++;
        forgetProofs();
        return room.placeCount - 1;
    }

    public int setEnd(int place) throws IndexOutOfBoundsException, IllegalStateException {
        refuseUnknownPlace(place);
        refuseAfterActs();
        int before = room.end;
        room.end = place;
        forgetProofs();
        return before;
    }

    public int addDoor(int from, int to, int lock, boolean isSlamming)
            throws IndexOutOfBoundsException, IllegalArgumentException, IllegalStateException,
            UnsupportedOperationException {
        refuseUnknownPlace(from);
        refuseUnknownPlace(to);
        refuseUnknownLockUnlessNone(lock);
        if (from == to) {
            throw new IllegalArgumentException("both places are the same");
        }
        refuseAfterActs();
        refuseIfFull(room.doors.size(), MOST_DOORS);
        room.doors.add(new Door(from, to, lock, isSlamming));
        forgetProofs();
        return room.doors.size() - 1;
    }

    public int addProp(int place, int lock, int fact)
            throws IndexOutOfBoundsException, IllegalArgumentException, IllegalStateException,
            UnsupportedOperationException {
        refuseUnknownPlace(place);
        refuseUnknownLockUnlessNone(lock);
        if (fact != NONE) {
            refuseUnknownFact(fact);
        }
        refuseAfterActs();
        refuseIfFull(room.props.size(), MOST_PROPS);
        room.props.add(new Prop(place, lock, fact));
        forgetProofs();
        return room.props.size() - 1;
    }

    public int addKeyLock(int place, int prop, boolean isBreaking)
            throws IndexOutOfBoundsException, IllegalArgumentException, IllegalStateException,
            UnsupportedOperationException {
        refuseUnknownPlace(place);
        if (prop < 0 || prop >= MOST_PROPS) {
            throw new IllegalArgumentException("the prop is out of range");
        }
        return addedLock('k', place, 1 << prop, isBreaking);
    }

    public int addLock(char kind, int place, int set)
            throws IllegalArgumentException, IndexOutOfBoundsException, IllegalStateException,
            UnsupportedOperationException {
        if (kind != 'c' && kind != 's') {
            throw new IllegalArgumentException("no such kind");
        }
        int all = kind == 'c' ? ALL_FACTS : ALL_SWITCHES;
        if ((set & ~all) != 0) {
            throw new IllegalArgumentException("the set has something else than facts or switches");
        }
        refuseUnknownPlace(place);
        return addedLock(kind, place, set, false);
    }

    public int addSwitch(int place)
            throws IndexOutOfBoundsException, IllegalStateException, UnsupportedOperationException {
        refuseUnknownPlace(place);
        refuseAfterActs();
        refuseIfFull(room.switches.size(), MOST_SWITCHES);
        room.switches.add(new Switch(place));
        forgetProofs();
        return room.switches.size() - 1;
    }

    public int infer(int facts, int fact)
            throws IllegalArgumentException, IllegalStateException, UnsupportedOperationException {
        if (facts == 0 || (facts & ~ALL_FACTS) != 0) {
            throw new IllegalArgumentException("the set is empty or has something else than facts");
        }
        refuseUnknownFact(fact);
        refuseAfterActs();
        refuseIfFull(room.inferences.size(), MOST_INFERENCES);
        room.inferences.add(new Inference(facts, fact));
        forgetProofs();
        return room.inferences.size();
    }

    // Play.

    public boolean act(int act) throws IllegalArgumentException, UnsupportedOperationException {
        refuseUnknownAct(act);
        refuseImpossibleAct(act);
        long before = state;
        state = room.after(state, act);
        actCount++;
        desk.watch(State.openIn(state));
        return state != before;
    }

    public int reset() {
        int acts = actCount;
        state = State.BEGINNING;
        actCount = 0;
        desk.watch(State.openIn(state));
        return acts;
    }

    public int place() {
        return State.placeIn(state);
    }

    public boolean knows(int fact) throws IllegalArgumentException {
        refuseUnknownFact(fact);
        return State.has(State.knownIn(state), fact);
    }

    public char propAt(int prop) throws IndexOutOfBoundsException {
        if (prop < 0 || prop >= room.props.size()) {
            throw new IndexOutOfBoundsException("no such prop");
        }
        if (State.has(State.heldIn(state), prop)) {
            return 'h';
        }
        return State.has(State.brokenIn(state), prop) ? 'x' : 'p';
    }

    public boolean isOpen(int lock) throws IndexOutOfBoundsException {
        refuseUnknownLock(lock);
        return State.has(State.openIn(state), lock);
    }

    public boolean can(int act) throws IllegalArgumentException {
        refuseUnknownAct(act);
        return room.allows(state, act);
    }

    // Proofs and hints.

    public int states() throws UnsupportedOperationException {
        return wholeProof().stateCount();
    }

    public int deadEnds() throws UnsupportedOperationException {
        Proof whole = wholeProof();
        return whole.stateCount() - whole.livingCount();
    }

    public int wayLeft() throws UnsupportedOperationException, NoSuchElementException {
        return wayOfLiving(wholeProof());
    }

    public boolean canIn(int acts) throws IllegalArgumentException {
        if (acts < 0 || acts > MOST_ACTS_TRIED) {
            throw new IllegalArgumentException("the number is out of range");
        }
        return trial.leadsToEnd(room, state, acts);
    }

    public int hint()
            throws UnsupportedOperationException, NoSuchElementException, IllegalStateException {
        Proof whole = wholeProof();
        int way = wayOfLiving(whole);
        if (way == 0) {
            throw new IllegalStateException("the group is in the end");
        }
        for (int i = 0; i < ACTS.length; i++) {
            int act = ACTS[i];
            if (room.allows(state, act) && whole.wayFrom(room.after(state, act)) == way - 1) {
                return act;
            }
        }
        throw new NoSuchElementException("no act shortens the way");
    }

    public boolean isWrong(int act) throws IllegalArgumentException, UnsupportedOperationException {
        refuseUnknownAct(act);
        refuseImpossibleAct(act);
        Proof whole = wholeProof();
        return whole.wayFrom(state) != NONE && whole.wayFrom(room.after(state, act)) == NONE;
    }

    // The desk.

    public boolean setSensor(int lock, boolean works) throws IndexOutOfBoundsException {
        refuseUnknownLock(lock);
        boolean before = desk.hasSensorOf(lock);
        desk.changeSensor(lock, works);
        desk.watch(State.openIn(state));
        return before;
    }

    public char seen(int lock) throws IndexOutOfBoundsException {
        refuseUnknownLock(lock);
        return desk.seesOpen(lock) ? 'o' : 's';
    }

    // Figures.

    public long checksum() {
        long sum = State.placeIn(state);
        sum = 31L * sum + State.knownIn(state);
        sum = 31L * sum + State.heldIn(state);
        sum = 31L * sum + State.brokenIn(state);
        sum = 31L * sum + State.openIn(state);
        return 31L * sum + State.onIn(state);
    }

    public float knownShare() {
        return (float) Integer.bitCount(State.knownIn(state)) / (float) FACTS;
    }

    public double meanWay() throws UnsupportedOperationException, ArithmeticException {
        Proof whole = wholeProof();
        int living = whole.livingCount();
        if (living == 0) {
            throw new ArithmeticException("all states are dead");
        }
        return (double) whole.sumOfWays() / (double) living;
    }

    public boolean isSound() {
        return canComeUp() && desk.agreesWith(State.openIn(state)) && agreesWithTrial();
    }

    /** Where too many states come up to look for it, it is one of them all the same: acts alone ever make it. */
    private boolean canComeUp() {
        Proof tried = triedProof();
        return tried.isTooLarge() || tried.hasState(state);
    }

    private boolean agreesWithTrial() {
        Proof tried = triedProof();
        if (tried.isTooLarge()) {
            return true;
        }
        int way = tried.wayFrom(state);
        boolean isNear = way != NONE && way <= MOST_ACTS_TRIED;
        return isNear == trial.leadsToEnd(room, state, MOST_ACTS_TRIED);
    }

    // What several calls share.

    private void refuseAfterActs() {
        if (actCount > 0) {
            throw new IllegalStateException("the group has acted");
        }
    }

    private static void refuseIfFull(int count, int most) {
        if (count >= most) {
            throw new UnsupportedOperationException("there are as many as can be");
        }
    }

    private void refuseUnknownPlace(int place) {
        if (place < 0 || place >= room.placeCount) {
            throw new IndexOutOfBoundsException("no such place");
        }
    }

    private void refuseUnknownLock(int lock) {
        if (lock < 0 || lock >= room.locks.size()) {
            throw new IndexOutOfBoundsException("no such lock");
        }
    }

    private void refuseUnknownLockUnlessNone(int lock) {
        if (lock != NONE) {
            refuseUnknownLock(lock);
        }
    }

    private static void refuseUnknownFact(int fact) {
        if (fact < 0 || fact >= FACTS) {
            throw new IllegalArgumentException("no such fact");
        }
    }

    private static void refuseUnknownAct(int act) {
        for (int i = 0; i < ACTS.length; i++) {
            if (ACTS[i] == act) {
                return;
            }
        }
        throw new IllegalArgumentException("no such act");
    }

    private void refuseImpossibleAct(int act) {
        if (!room.allows(state, act)) {
            throw new UnsupportedOperationException("the act cannot be done");
        }
    }

    private int addedLock(char kind, int place, int set, boolean isBreaking) {
        refuseAfterActs();
        refuseIfFull(room.locks.size(), MOST_LOCKS);
        room.locks.add(new Lock(kind, place, set, isBreaking));
        forgetProofs();
        return room.locks.size() - 1;
    }

    private void forgetProofs() {
        isProven = false;
        trial.forget();
    }

    /** The proof is gone through when it is first asked for, and again when the room changed. */
    private Proof triedProof() {
        if (!isProven) {
            proof.goThrough(room);
            isProven = true;
        }
        return proof;
    }

    private Proof wholeProof() {
        Proof tried = triedProof();
        if (tried.isTooLarge()) {
            throw new UnsupportedOperationException("too many states can come up");
        }
        return tried;
    }

    private int wayOfLiving(Proof whole) {
        int way = whole.wayFrom(state);
        if (way == NONE) {
            throw new NoSuchElementException("the state is dead");
        }
        return way;
    }

    /** From 0 to below SLOTS, for any number. */
    private static int firstSlotOf(long number) {
        return (int) (number * SPREAD >>> 64 - SLOT_BITS);
    }

    /** The lock is NONE if the door has none. */
    private record Door(int from, int to, int lock, boolean slams) {
    }

    /** The box is the lock of its box, or NONE without a box; the fact is NONE if it has none. */
    private record Prop(int home, int box, int fact) {
    }

    /** The set is of props for 'k', of facts for 'c', of switches for 's'. */
    private record Lock(char kind, int home, int set, boolean breaks) {
    }

    private record Switch(int home) {
    }

    private record Inference(int facts, int fact) {
    }

    /** A state is one number, so that no object is made for each of the many that are gone through. */
    private static final class State {
        static final long BEGINNING = 0L;

        private static final int KNOWN_AT = 3;
        private static final int HELD_AT = KNOWN_AT + FACTS;
        private static final int BROKEN_AT = HELD_AT + MOST_PROPS;
        private static final int OPEN_AT = BROKEN_AT + MOST_PROPS;
        private static final int ON_AT = OPEN_AT + MOST_LOCKS;

        private static final int PLACE_BITS = (1 << KNOWN_AT) - 1;
        private static final int ALL_PROPS = (1 << MOST_PROPS) - 1;

        static int placeIn(long state) {
            return (int) state & PLACE_BITS;
        }

        static int knownIn(long state) {
            return (int) (state >>> KNOWN_AT) & ALL_FACTS;
        }

        static int heldIn(long state) {
            return (int) (state >>> HELD_AT) & ALL_PROPS;
        }

        static int brokenIn(long state) {
            return (int) (state >>> BROKEN_AT) & ALL_PROPS;
        }

        static int openIn(long state) {
            return (int) (state >>> OPEN_AT) & ALL_LOCKS;
        }

        static int onIn(long state) {
            return (int) (state >>> ON_AT) & ALL_SWITCHES;
        }

        static boolean has(int set, int member) {
            return (set >>> member & 1) != 0;
        }

        static long going(long state, int place) {
            return state & ~(long) PLACE_BITS | place;
        }

        static long knowing(long state, int facts) {
            return state | (long) facts << KNOWN_AT;
        }

        static long taking(long state, int prop) {
            return state | 1L << HELD_AT + prop;
        }

        static long breaking(long state, int props) {
            return state & ~((long) props << HELD_AT) | (long) props << BROKEN_AT;
        }

        static long opening(long state, int lock) {
            return state | 1L << OPEN_AT + lock;
        }

        static long turning(long state, int number) {
            return state ^ 1L << ON_AT + number;
        }
    }

    /** What the room has, which acts a state allows, and where they lead. */
    private static final class Room {
        final ArrayList<Door> doors = new ArrayList<>();
        final ArrayList<Prop> props = new ArrayList<>();
        final ArrayList<Lock> locks = new ArrayList<>();
        final ArrayList<Switch> switches = new ArrayList<>();
        final ArrayList<Inference> inferences = new ArrayList<>();
        int placeCount = 0;
        int end = 0;

        boolean isEnd(long state) {
            return State.placeIn(state) == end;
        }

        boolean allows(long state, int act) {
            if (isEnd(state)) {
                return false;
            }
            if (act < LOOK) {
                return isPassable(state, act);
            }
            if (act < FIRST_PROP) {
                return true;
            }
            if (act < FIRST_LOCK) {
                return isInSight(state, act - FIRST_PROP);
            }
            if (act < FIRST_SWITCH) {
                return isOpenable(state, act - FIRST_LOCK);
            }
            return isInReach(state, act - FIRST_SWITCH);
        }

        /** Only for an act that the state allows. */
        long after(long state, int act) {
            if (act < LOOK) {
                return afterDoor(state, act);
            }
            if (act < FIRST_PROP) {
                return State.knowing(state, withInferences(State.knownIn(state) | factsShown(state)));
            }
            if (act < FIRST_LOCK) {
                return State.taking(state, act - FIRST_PROP);
            }
            if (act < FIRST_SWITCH) {
                return afterLock(state, act - FIRST_LOCK);
            }
            return State.turning(state, act - FIRST_SWITCH);
        }

        private boolean isPassable(long state, int number) {
            if (number < 0 || number >= doors.size()) {
                return false;
            }
            Door door = doors.get(number);
            int here = State.placeIn(state);
            boolean leadsOn = here == door.from || here == door.to && !door.slams;
            return leadsOn && isFree(State.openIn(state), door.lock);
        }

        private boolean isOpenable(long state, int number) {
            if (number < 0 || number >= locks.size()) {
                return false;
            }
            Lock lock = locks.get(number);
            if (lock.home != State.placeIn(state) || State.has(State.openIn(state), number)) {
                return false;
            }
            if (lock.kind == 's') {
                return State.onIn(state) == lock.set;
            }
            int given = lock.kind == 'k' ? State.heldIn(state) : State.knownIn(state);
            return (given & lock.set) == lock.set;
        }

        private boolean isInReach(long state, int number) {
            return number >= 0 && number < switches.size()
                    && switches.get(number).home == State.placeIn(state);
        }

        private static boolean isFree(int open, int lock) {
            return lock == NONE || (open >>> lock & 1) != 0;
        }

        private boolean isInSight(long state, int number) {
            if (number < 0 || number >= props.size()) {
                return false;
            }
            Prop prop = props.get(number);
            int taken = State.heldIn(state) | State.brokenIn(state);
            return prop.home == State.placeIn(state) && isFree(State.openIn(state), prop.box)
                    && !State.has(taken, number);
        }

        private int factsShown(long state) {
            int held = State.heldIn(state);
            int facts = 0;
            for (int i = 0; i < props.size(); i++) {
                int fact = props.get(i).fact;
                if (fact != NONE && (State.has(held, i) || isInSight(state, i))) {
                    facts |= 1 << fact;
                }
            }
            return facts;
        }

        private int withInferences(int known) {
            int all = known;
            // Each round but one that changes nothing settles an inference more, so these rounds are enough.
            for (int round = 0; round < inferences.size(); round++) {
                for (int i = 0; i < inferences.size(); i++) {
                    Inference inference = inferences.get(i);
                    if ((all & inference.facts) == inference.facts) {
                        all |= 1 << inference.fact;
                    }
                }
            }
            return all;
        }

        private long afterDoor(long state, int number) {
            if (number < 0 || number >= doors.size()) {
                return state;
            }
            Door door = doors.get(number);
            return State.going(state, State.placeIn(state) == door.from ? door.to : door.from);
        }

        private long afterLock(long state, int number) {
            if (number < 0 || number >= locks.size()) {
                return state;
            }
            Lock lock = locks.get(number);
            long opened = State.opening(state, number);
            return lock.breaks ? State.breaking(opened, lock.set) : opened;
        }
    }

    /** What the desk sees of the locks. */
    private static final class Desk {
        private int working = ALL_LOCKS;
        private int open = 0;

        /** Must follow each change of the state or of a sensor, so that what was seen last is always kept. */
        void watch(int openNow) {
            open = open & ~working | openNow & working;
        }

        boolean hasSensorOf(int lock) {
            return State.has(working, lock);
        }

        void changeSensor(int lock, boolean works) {
            working = works ? working | 1 << lock : working & ~(1 << lock);
        }

        boolean seesOpen(int lock) {
            return State.has(open, lock);
        }

        boolean agreesWith(int openNow) {
            return ((open ^ openNow) & working) == 0;
        }
    }

    /** All states that can come up, and the way that is left from each; its rows are made once and filled anew. */
    private static final class Proof {
        private static final int TO_BITS = 11;
        private static final int TO_MASK = (1 << TO_BITS) - 1;

        private final long[] found = new long[MOST_STATES];
        private final int[] ways = new int[MOST_STATES];
        private final int[] slots = new int[SLOTS];
        private final int[] steps = new int[MOST_STATES * ACTS.length];
        private int count = 0;
        private int stepCount = 0;
        private boolean isFull = false;

        void goThrough(Room room) {
            Arrays.fill(slots, NONE);
            count = 0;
            stepCount = 0;
            isFull = false;
            enter(State.BEGINNING);
            for (int from = 0; from < count && from < MOST_STATES && !isFull; from++) {
                for (int i = 0; i < ACTS.length && !isFull; i++) {
                    int act = ACTS[i];
                    if (room.allows(found[from], act)) {
                        addStep(from, enter(room.after(found[from], act)));
                    }
                }
            }
            if (!isFull) {
                measure(room);
            }
        }

        boolean isTooLarge() {
            return isFull;
        }

        boolean hasState(long state) {
            return indexOf(state) != NONE;
        }

        int stateCount() {
            return count;
        }

        int wayFrom(long state) {
            int index = indexOf(state);
            return index < 0 || index >= MOST_STATES ? NONE : ways[index];
        }

        int livingCount() {
            int living = 0;
            for (int i = 0; i < count && i < MOST_STATES; i++) {
                if (ways[i] != NONE) {
                    living++;
                }
            }
            return living;
        }

        int sumOfWays() {
            int sum = 0;
            for (int i = 0; i < count && i < MOST_STATES; i++) {
                if (ways[i] != NONE) {
                    sum += ways[i];
                }
            }
            return sum;
        }

        private void addStep(int from, int to) {
            if (to != NONE && to != from && stepCount < steps.length) {
                steps[stepCount] = from << TO_BITS | to;
                stepCount++;
            }
        }

        private int enter(long state) {
            int slot = slotOf(state);
            if (slot != NONE && slots[slot] != NONE) {
                return slots[slot];
            }
            if (slot == NONE || count >= MOST_STATES) {
                isFull = true;
                return NONE;
            }
            slots[slot] = count;
            found[count] = state;
            count++;
            return count - 1;
        }

        private int indexOf(long state) {
            int slot = slotOf(state);
            return slot == NONE ? NONE : slots[slot];
        }

        /** The slot that holds the state, or the free one where it belongs. */
        private int slotOf(long state) {
            int slot = firstSlotOf(state);
            for (int tries = 0; tries < SLOTS; tries++) {
                int index = slots[slot];
                if (index < 0 || index >= MOST_STATES || found[index] == state) {
                    return slot;
                }
                slot = slot + 1 & SLOTS - 1;
            }
            return NONE;
        }

        /** Goes back from the end: round after round finds the states whose way is one act longer. */
        private void measure(Room room) {
            for (int i = 0; i < count && i < MOST_STATES; i++) {
                ways[i] = room.isEnd(found[i]) ? 0 : NONE;
            }
            boolean hasMore = true;
            for (int way = 1; hasMore && way <= MOST_STATES; way++) {
                hasMore = findWaysOf(way);
            }
        }

        private boolean findWaysOf(int way) {
            boolean finds = false;
            for (int i = 0; i < stepCount && i < steps.length; i++) {
                int from = steps[i] >>> TO_BITS;
                int to = steps[i] & TO_MASK;
                if (from < MOST_STATES && to < MOST_STATES && ways[from] == NONE && ways[to] == way - 1) {
                    ways[from] = way;
                    finds = true;
                }
            }
            return finds;
        }
    }

    /** Looks for the end by trying all acts, without any proof. */
    private static final class Trial {
        private static final int LEFT_BITS = 3;

        // What failed is remembered, or acts in another order would be tried again; a newer one takes a slot over.
        private final long[] failed = new long[SLOTS];

        void forget() {
            Arrays.fill(failed, 0L);
        }

        /** Private, though the house calls it, as methods that call one another must be. */
        private boolean leadsToEnd(Room room, long state, int left) {
            if (room.isEnd(state)) {
                return true;
            }
            if (left <= 0 || left > MOST_ACTS_TRIED) {
                return false;
            }
            long mark = state << LEFT_BITS | left;
            int slot = firstSlotOf(mark);
            if (failed[slot] == mark) {
                return false;
            }
            boolean leads = leadsByAnAct(room, state, left);
            // Those with a single act left are too many for the slots, and are soon tried.
            if (!leads && left > 1) {
                failed[slot] = mark;
            }
            return leads;
        }

        private boolean leadsByAnAct(Room room, long state, int left) {
            // Only a door can lead into the end, so that the last act need not be another one.
            int most = left == 1 ? room.doors.size() : ACTS.length;
            for (int i = 0; i < most && i < ACTS.length; i++) {
                int act = ACTS[i];
                if (room.allows(state, act) && leadsToEnd(room, room.after(state, act), left - 1)) {
                    return true;
                }
            }
            return false;
        }
    }
}
