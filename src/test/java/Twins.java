import java.util.ArrayList;
import java.util.List;

/**
 * Two houses that came to be by the same calls, one of which has got one call more, which it refused: whatever is
 * asked of them, or done with them then, they must answer alike. Each house gets 512 calls at most, so that many
 * pairs of them are made, and each pair gets another series of calls.
 */
final class Twins {
    static final int MOST_CALLS = 512;

    private final List<int[]> record;
    private final int budget;
    private final List<List<int[]>> series = new ArrayList<>();
    private final List<long[]> untouched = new ArrayList<>();

    Twins(List<int[]> record) {
        this.record = new ArrayList<>(record);
        budget = MOST_CALLS - record.size() - 1;
        KeeperHouse h = again();
        int versions = h.versions();
        int packs = h.count(1);
        addQuestions(versions);
        addOfMachines();
        addOfHours();
        addOfTheHouse(versions, packs);
        for (List<int[]> calls : series) {
            untouched.add(answers(again(), calls));
        }
    }

    private KeeperHouse again() {
        KeeperHouse h = new KeeperHouse();
        for (int[] call : record) {
            Calls.answer(h, call[0], arguments(call));
        }
        return h;
    }

    static int[] call(int call, int... a) {
        int[] all = new int[5];
        all[0] = call;
        System.arraycopy(a, 0, all, 1, a.length);
        return all;
    }

    static int[] arguments(int[] call) {
        return new int[] {call[1], call[2], call[3], call[4]};
    }

    private static long[] answers(KeeperHouse h, List<int[]> calls) {
        long[] all = new long[calls.size()];
        for (int i = 0; i < all.length; i++) {
            all[i] = Calls.answer(h, calls.get(i)[0], arguments(calls.get(i)));
        }
        return all;
    }

    /** What a call with these arguments answers, a new house having come the same way. */
    long answer(int[] call) {
        return Calls.answer(again(), call[0], arguments(call));
    }

    /** Makes the refused call, and looks whether it has changed anything. */
    void compare(String what, int[] refused) {
        for (int i = 0; i < series.size(); i++) {
            KeeperHouse h = again();
            Calls.answer(h, refused[0], arguments(refused));
            long[] touched = answers(h, series.get(i));
            for (int k = 0; k < touched.length; k++) {
                int[] call = series.get(i).get(k);
                if (touched[k] != untouched.get(i)[k]) {
                    Due.is(what + " changes nothing: then call " + k + " of series " + i + ", "
                            + Calls.told(call[0], arguments(call)), touched[k], untouched.get(i)[k]);
                    break;
                }
            }
            Due.is(what + " changes nothing", true, true);
        }
    }

    private void add(List<int[]> calls) {
        series.add(calls.size() <= budget ? calls : calls.subList(0, Math.max(budget, 0)));
    }

    private void addInParts(List<int[]> questions) {
        int part = Math.max(1, Math.min(budget, 250));
        for (int from = 0; from < questions.size(); from += part) {
            add(questions.subList(from, Math.min(questions.size(), from + part)));
        }
    }

    private void addQuestions(int versions) {
        List<int[]> all = new ArrayList<>();
        for (int call : new int[] {Calls.TIME, Calls.VERSIONS, Calls.LOST}) {
            all.add(call(call));
        }
        for (int machine = 0; machine < 3; machine++) {
            all.add(call(Calls.NOTED, machine));
            all.add(call(Calls.TAKEN, machine));
            for (int folder = 0; folder < 4; folder++) {
                all.add(call(Calls.RIGHT, folder, machine));
            }
            for (int file = 0; file < 16; file++) {
                all.add(call(Calls.STATE_OF, machine, file));
                all.add(call(Calls.FOLDER_OF, machine, file));
                all.add(call(Calls.IS_CHANGED, machine, file));
                all.add(call(Calls.SEEN, machine, file));
                for (int place = 0; place < 12; place++) {
                    all.add(call(Calls.NUMBER_AT, machine, file, place));
                }
            }
        }
        for (int what = 0; what < 8; what++) {
            all.add(call(Calls.COUNT, what));
        }
        for (int file = 0; file < 16; file++) {
            all.add(call(Calls.LOCK_OF, file));
        }
        for (int version = 0; version < versions; version++) {
            for (int what = 0; what < 6; what++) {
                all.add(call(Calls.VERSION, version, what));
            }
        }
        addInParts(all);
    }

    private void addOfMachines() {
        List<int[]> told = new ArrayList<>();
        told.add(call(Calls.WRITE, 2, 15));
        for (int place = 0; place < 12; place++) {
            told.add(call(Calls.NUMBER_AT, 2, 15, place));
        }
        for (int machine = 0; machine < 3; machine++) {
            told.add(call(Calls.LATE, machine, 0));
            told.add(call(Calls.ROOM, machine, 100));
            told.add(call(Calls.LOSE, machine));
            for (int file = 0; file < 16; file++) {
                told.add(call(Calls.PIN, machine, file, 0));
            }
        }
        add(told);
        for (int machine = 0; machine < 3; machine++) {
            List<int[]> opened = new ArrayList<>();
            opened.add(call(Calls.DRAFT, 1));
            opened.add(call(Calls.ROOM, machine, 9));
            opened.add(call(Calls.PULL, machine));
            for (int file = 0; file < 16; file++) {
                opened.add(call(Calls.OPEN, machine, file));
                for (int other = 0; other < 16; other++) {
                    opened.add(call(Calls.STATE_OF, machine, other));
                }
            }
            add(opened);
            List<int[]> uploaded = new ArrayList<>();
            for (int pieces = 0; pieces < 4; pieces++) {
                uploaded.add(call(Calls.UPLOAD, machine, pieces));
                uploaded.add(call(Calls.NOTED, machine));
                uploaded.add(call(Calls.COUNT, 7));
            }
            uploaded.add(call(Calls.SCAN, machine));
            uploaded.add(call(Calls.UPLOAD, machine, 100));
            for (int version = 0; version < 40; version++) {
                uploaded.add(call(Calls.VERSION, version, 0));
            }
            add(uploaded);
        }
    }

    private void addOfHours() {
        List<int[]> events = new ArrayList<>();
        for (int hour = 0; hour < 50; hour++) {
            events.add(call(Calls.PASS, 1));
            for (int machine = 0; machine < 3; machine++) {
                events.add(call(Calls.NOTED, machine));
                events.add(call(Calls.UPLOAD, machine, 100));
            }
            events.add(call(Calls.VERSIONS));
        }
        add(events);
        for (int first = 0; first < 16; first += 8) {
            List<int[]> locks = new ArrayList<>();
            for (int hour = 0; hour < 49; hour++) {
                locks.add(call(Calls.PASS, 1));
                for (int file = first; file < first + 8; file++) {
                    locks.add(call(Calls.LOCK_OF, file));
                }
            }
            add(locks);
        }
        List<int[]> rights = new ArrayList<>();
        for (int step = 0; step < 30; step++) {
            rights.add(call(Calls.PASS, step < 10 ? 1 : 100));
            for (int folder = 0; folder < 4; folder++) {
                for (int machine = 0; machine < 3; machine++) {
                    rights.add(call(Calls.RIGHT, folder, machine));
                }
            }
        }
        add(rights);
    }

    private void addOfTheHouse(int versions, int packs) {
        List<int[]> thinned = new ArrayList<>();
        for (int hours : new int[] {24, 24, 100, 100}) {
            thinned.add(call(Calls.PASS, hours));
            thinned.add(call(Calls.THIN));
            for (int version = 0; version < versions; version++) {
                thinned.add(call(Calls.VERSION, version, 5));
            }
            thinned.add(call(Calls.COUNT, 0));
        }
        thinned.add(call(Calls.HOLD, 0, 0, 0));
        thinned.add(call(Calls.RELEASE));
        add(thinned);
        List<int[]> mended = new ArrayList<>();
        for (int turn = 0; turn < 3; turn++) {
            mended.add(call(Calls.SCRUB));
            mended.add(call(Calls.FOLLOW, 2));
            mended.add(call(Calls.COUNT, 2));
            mended.add(call(Calls.COUNT, 3));
            mended.add(call(Calls.COUNT, 4));
        }
        for (int pack = 0; pack <= packs; pack++) {
            mended.add(call(Calls.DAMAGE, pack));
        }
        mended.add(call(Calls.SCRUB));
        mended.add(call(Calls.LOST));
        add(mended);
        List<int[]> restored = new ArrayList<>();
        for (int folder = 0; folder < 4; folder++) {
            restored.add(call(Calls.RESTORE_FOLDER, folder, 0));
        }
        for (int file = 0; file < 16; file++) {
            restored.add(call(Calls.AS_OF, file, 0));
            restored.add(call(Calls.RESTORE, file, 0));
        }
        restored.add(call(Calls.BREAK_LOCK, 0));
        restored.add(call(Calls.LOCK, 0, 0, 1));
        restored.add(call(Calls.DRAFT, 0));
        add(restored);
    }
}
