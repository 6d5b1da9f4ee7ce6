import java.util.ArrayList;
import java.util.Collections;
import java.util.List;

/**
 * All that a house answers, its counts too, so that two houses can be told apart. It takes some 340 calls and changes
 * the house: it plays on, takes all acts back, and adds to the room until it is full.
 */
final class Account {
    private final EscapadeHouse house;
    private final List<String> answers = new ArrayList<>();

    private Account(EscapadeHouse house) {
        this.house = house;
    }

    static List<String> of(EscapadeHouse house) {
        Account account = new Account(house);
        account.askOfState();
        account.askOfProofs();
        List<Integer> acts = Reference.allActs();
        Collections.reverse(acts);
        account.play(acts);
        account.play(acts);
        account.askOfDesk();
        account.note("reset()", house::reset);
        account.askOfDesk();
        account.play(Reference.allActs());
        account.askOfSensors();
        account.note("reset() again", house::reset);
        account.fill();
        return account.answers;
    }

    private void note(String call, Check.Call made) {
        answers.add(call + ": " + Check.answerOf(made));
    }

    private void askOfState() {
        note("place()", house::place);
        for (int i = -1; i <= 12; i++) {
            int number = i;
            note("knows(" + i + ")", () -> house.knows(number));
        }
        for (int i = -1; i <= 8; i++) {
            int number = i;
            note("propAt(" + i + ")", () -> house.propAt(number));
        }
        for (int i = -1; i <= 6; i++) {
            int number = i;
            note("isOpen(" + i + ")", () -> house.isOpen(number));
        }
        for (int act : Reference.allActs()) {
            note("can(" + act + ")", () -> house.can(act));
        }
        note("checksum()", house::checksum);
        note("knownShare()", house::knownShare);
        askOfDesk();
    }

    private void askOfProofs() {
        note("states()", house::states);
        note("deadEnds()", house::deadEnds);
        note("wayLeft()", house::wayLeft);
        note("hint()", house::hint);
        note("meanWay()", house::meanWay);
        note("isSound()", house::isSound);
        for (int i = 0; i <= 5; i++) {
            int acts = i;
            note("canIn(" + i + ")", () -> house.canIn(acts));
        }
        for (int act : Reference.allActs()) {
            note("isWrong(" + act + ")", () -> house.isWrong(act));
        }
    }

    private void askOfDesk() {
        for (int i = 0; i <= 6; i++) {
            int lock = i;
            note("seen(" + i + ")", () -> house.seen(lock));
        }
    }

    private void askOfSensors() {
        for (int i = 0; i <= 6; i++) {
            int lock = i;
            note("setSensor(" + i + ", true)", () -> house.setSensor(lock, true));
        }
    }

    private void play(List<Integer> acts) {
        for (int act : acts) {
            note("act(" + act + ")", () -> house.act(act));
            note("checksum() after it", house::checksum);
        }
    }

    /** The numbers that are answered tell how many there were. */
    private void fill() {
        noteEach(7, "addPlace()", house::addPlace);
        note("setEnd(1)", () -> house.setEnd(1));
        noteEach(9, "addDoor(0, 1, -1, true)", () -> house.addDoor(0, 1, -1, true));
        noteEach(9, "addProp(0, -1, -1)", () -> house.addProp(0, -1, -1));
        noteEach(7, "addLock('c', 0, 0)", () -> house.addLock('c', 0, 0));
        noteEach(5, "addSwitch(0)", () -> house.addSwitch(0));
        noteEach(7, "infer(1, 1)", () -> house.infer(1, 1));
    }

    private void noteEach(int times, String call, Check.Call made) {
        for (int i = 0; i < times; i++) {
            note(call, made);
        }
    }
}
