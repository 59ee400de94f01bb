import java.util.ArrayList;
import java.util.List;

/** A KeeperHouse that remembers its calls, and never gets more than the 512 that the document speaks of. */
final class House {
    private final KeeperHouse house = new KeeperHouse();
    private final List<int[]> record = new ArrayList<>();
    private int calls = 0;
    private Twins twins = null;

    /** A call that throws answers one of the numbers that Calls tells. */
    int run(int call, int... a) {
        calls++;
        if (calls > Twins.MOST_CALLS) {
            Due.fail("the test makes more calls than are promised to be answered");
        }
        int[] row = Twins.call(call, a);
        if (call < Calls.FIRST_QUESTION) {
            record.add(row);
            twins = null;
        }
        return (int) Calls.answer(house, call, Twins.arguments(row));
    }

    /** The call is made on a house that came the same way; whatever is done then, it must not be told from this. */
    void refuses(String what, long due, int call, int... a) {
        if (twins == null) {
            twins = new Twins(record);
        }
        int[] row = Twins.call(call, a);
        String told = what + ", " + Calls.told(call, Twins.arguments(row)) + ",";
        Due.is(told, Calls.name(twins.answer(row)), Calls.name(due));
        twins.compare(told, row);
    }

    /** What the call would answer; it is not made on this house. */
    long wouldAnswer(int call, int... a) {
        if (twins == null) {
            twins = new Twins(record);
        }
        return twins.answer(Twins.call(call, a));
    }

    /** A question, that is asked of a house which came the same way. */
    void changesNothing(String what, int call, int... a) {
        wouldAnswer(call, a);
        twins.compare(what, Twins.call(call, a));
    }

    void noIndex(String what, int call, int... a) {
        refuses(what, Calls.NO_INDEX, call, a);
    }

    void noArgument(String what, int call, int... a) {
        refuses(what, Calls.NO_ARGUMENT, call, a);
    }

    void noState(String what, int call, int... a) {
        refuses(what, Calls.NO_STATE, call, a);
    }

    // ---- the face

    int draft(int number) {
        return run(Calls.DRAFT, number);
    }

    int write(int machine, int file) {
        return run(Calls.WRITE, machine, file);
    }

    int move(int machine, int file, int folder) {
        return run(Calls.MOVE, machine, file, folder);
    }

    int erase(int machine, int file) {
        return run(Calls.ERASE, machine, file);
    }

    int late(int machine, int hours) {
        return run(Calls.LATE, machine, hours);
    }

    int lose(int machine) {
        return run(Calls.LOSE, machine);
    }

    int scan(int machine) {
        return run(Calls.SCAN, machine);
    }

    int room(int machine, int room) {
        return run(Calls.ROOM, machine, room);
    }

    int pin(int machine, int file, boolean isPinned) {
        return run(Calls.PIN, machine, file, isPinned ? 1 : 0);
    }

    int upload(int machine, int pieces) {
        return run(Calls.UPLOAD, machine, pieces);
    }

    int pull(int machine) {
        return run(Calls.PULL, machine);
    }

    int open(int machine, int file) {
        return run(Calls.OPEN, machine, file);
    }

    int lock(int machine, int file, int hours) {
        return run(Calls.LOCK, machine, file, hours);
    }

    int breakLock(int file) {
        return run(Calls.BREAK_LOCK, file);
    }

    int share(int folder, int machine, int right, int hours) {
        return run(Calls.SHARE, folder, machine, right, hours);
    }

    int hold(int file, int from, int to) {
        return run(Calls.HOLD, file, from, to);
    }

    int release() {
        return run(Calls.RELEASE);
    }

    int thin() {
        return run(Calls.THIN);
    }

    int restore(int file, int time) {
        return run(Calls.RESTORE, file, time);
    }

    int restoreFolder(int folder, int time) {
        return run(Calls.RESTORE_FOLDER, folder, time);
    }

    int damage(int pack) {
        return run(Calls.DAMAGE, pack);
    }

    int scrub() {
        return run(Calls.SCRUB);
    }

    int follow(int entries) {
        return run(Calls.FOLLOW, entries);
    }

    int pass(int hours) {
        return run(Calls.PASS, hours);
    }

    int time() {
        return run(Calls.TIME);
    }

    int stateOf(int machine, int file) {
        return run(Calls.STATE_OF, machine, file);
    }

    int folderOf(int machine, int file) {
        return run(Calls.FOLDER_OF, machine, file);
    }

    int numberAt(int machine, int file, int place) {
        return run(Calls.NUMBER_AT, machine, file, place);
    }

    boolean isChanged(int machine, int file) {
        return run(Calls.IS_CHANGED, machine, file) == 1;
    }

    int seen(int machine, int file) {
        return run(Calls.SEEN, machine, file);
    }

    int noted(int machine) {
        return run(Calls.NOTED, machine);
    }

    int taken(int machine) {
        return run(Calls.TAKEN, machine);
    }

    int versions() {
        return run(Calls.VERSIONS);
    }

    int version(int version, int what) {
        return run(Calls.VERSION, version, what);
    }

    int asOf(int file, int time) {
        return run(Calls.AS_OF, file, time);
    }

    int lockOf(int file) {
        return run(Calls.LOCK_OF, file);
    }

    int right(int folder, int machine) {
        return run(Calls.RIGHT, folder, machine);
    }

    int count(int what) {
        return run(Calls.COUNT, what);
    }

    int lost() {
        return run(Calls.LOST);
    }

    // ---- series of calls that tests need often

    /** Drafts all the numbers; answers what the last draft did. */
    int draftAll(String numbers) {
        int answer = 0;
        for (int i = 0; i < numbers.length(); i++) {
            answer = draft(numbers.charAt(i) - '0');
        }
        return answer;
    }

    int write(int machine, int file, String numbers) {
        draftAll(numbers);
        return write(machine, file);
    }

    /** Writes, and uploads all that is noted; answers how many versions that made. */
    int put(int machine, int file, String numbers) {
        write(machine, file, numbers);
        return upload(machine, 100);
    }

    /** Erases, and uploads all that is noted; answers how many versions that made. */
    int delete(int machine, int file) {
        erase(machine, file);
        return upload(machine, 100);
    }

    /** Pulls and opens; answers how many numbers the file has. */
    int fetch(int machine, int file) {
        pull(machine);
        return open(machine, file);
    }

    /** Passes more hours than one call may. */
    void passAll(int hours) {
        for (int left = hours; left > 0; left -= Math.min(left, 100)) {
            pass(Math.min(left, 100));
        }
    }

    void passTo(int hour) {
        passAll(hour - time());
    }

    /** The numbers of a file as they are told; empty, if it is not there with its content. */
    String content(int machine, int file) {
        StringBuilder numbers = new StringBuilder();
        for (int place = 0; place < 14; place++) {
            int number = numberAt(machine, file, place);
            if (number == KeeperHouse.NONE) {
                break;
            }
            numbers.append(number);
        }
        return numbers.toString();
    }

    /** Which of the versions are kept, a 1 for each one, a 0 for one that was dropped. */
    String kept() {
        StringBuilder all = new StringBuilder();
        int made = versions();
        for (int version = 0; version < made; version++) {
            all.append(version(version, 5));
        }
        return all.toString();
    }

    /** The states of all files at a machine, in one text. */
    String states(int machine) {
        StringBuilder all = new StringBuilder();
        for (int file = 0; file < 16; file++) {
            all.append(stateOf(machine, file));
        }
        return all.toString();
    }

    /** The files of the versions from this one on, in the order of the versions. */
    String filesFrom(int first) {
        StringBuilder all = new StringBuilder();
        int made = versions();
        for (int version = first; version < made; version++) {
            all.append(all.length() == 0 ? "" : " ").append(version(version, 0));
        }
        return all.toString();
    }
}
