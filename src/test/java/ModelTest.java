import java.util.ArrayList;
import java.util.List;
import java.util.Map;
import java.util.Random;
import java.util.TreeMap;

/** Random runs (of fixed seeds) in which the house must answer as the model does, exceptions among it. */
public final class ModelTest {
    private static final int RUNS = 5000;
    private static final int[] WILD = {-1, -2, Integer.MIN_VALUE, Integer.MAX_VALUE, 2, 3, 4, 5, 6, 7, 8, 9, 10,
        11, 12, 13, 15, 16, 17, 48, 49, 50, 51, 100, 101, 119, 120, 121, 200, 201, 1999, 2000, 2001};
    private static final int[] OFTEN = {Calls.MOVE, Calls.MOVE, Calls.ERASE, Calls.UPLOAD, Calls.UPLOAD, Calls.UPLOAD,
        Calls.PULL, Calls.PULL, Calls.OPEN, Calls.OPEN, Calls.SCAN};
    private static final String[] MUST_HAPPEN = {"wrote a known file", "noted, but not changed",
        "damaged, had all the same", "piece shared", "stopped for want of pieces", "locked by another",
        "acknowledged", "deletion acknowledged", "same deletion seen", "same content seen",
        "erasing forgotten", "acknowledged over a deletion", "refused, no file free", "refused, no right",
        "both kept", "kept as another, itself not there", "pull without a right", "pulled a folder",
        "pulled a deletion", "pulled", "a piece is missing", "no room", "put away", "held",
        "thinned in a span", "thinned for age", "an entry dropped", "a piece stays for a noted file",
        "pieces dropped", "restored a deletion", "restored", "restored in the folder", "restored into",
        "restored out of", "mended", "followed a damaged piece", "lost"};

    private static final Map<String, Integer> happened = new TreeMap<>();

    private final Random dice;
    private final KeeperHouse house = new KeeperHouse();
    private final Model model = new Model();
    private final int files;
    private final int wildness;
    private final int numbers;
    private final int[] a = new int[4];
    private final List<int[]> record = new ArrayList<>();
    private String told = "";

    private ModelTest(long seed) {
        dice = new Random(seed);
        files = dice.nextInt(3) == 0 ? 16 : 2 + dice.nextInt(6);
        wildness = dice.nextInt(4) == 0 ? 8 : 120;
        numbers = 2 + dice.nextInt(4);
    }

    private static long modelAnswer(Model m, int call, int[] a) {
        try {
            switch (call) {
                case Calls.DRAFT: return m.draft(a[0]);
                case Calls.WRITE: return m.write(a[0], a[1]);
                case Calls.MOVE: return m.move(a[0], a[1], a[2]);
                case Calls.ERASE: return m.erase(a[0], a[1]);
                case Calls.LATE: return m.late(a[0], a[1]);
                case Calls.LOSE: return m.lose(a[0]);
                case Calls.SCAN: return m.scan(a[0]);
                case Calls.ROOM: return m.room(a[0], a[1]);
                case Calls.PIN: return m.pin(a[0], a[1], (a[2] & 1) != 0);
                case Calls.UPLOAD: return m.upload(a[0], a[1]);
                case Calls.PULL: return m.pull(a[0]);
                case Calls.OPEN: return m.open(a[0], a[1]);
                case Calls.LOCK: return m.lock(a[0], a[1], a[2]);
                case Calls.BREAK_LOCK: return m.breakLock(a[0]);
                case Calls.SHARE: return m.share(a[0], a[1], a[2], a[3]);
                case Calls.HOLD: return m.hold(a[0], a[1], a[2]);
                case Calls.RELEASE: return m.release();
                case Calls.THIN: return m.thin();
                case Calls.RESTORE: return m.restore(a[0], a[1]);
                case Calls.RESTORE_FOLDER: return m.restoreFolder(a[0], a[1]);
                case Calls.DAMAGE: return m.damage(a[0]);
                case Calls.SCRUB: return m.scrub();
                case Calls.FOLLOW: return m.follow(a[0]);
                case Calls.PASS: return m.pass(a[0]);
                case Calls.TIME: return m.time;
                case Calls.STATE_OF: return m.stateOf(a[0], a[1]);
                case Calls.FOLDER_OF: return m.folderOf(a[0], a[1]);
                case Calls.NUMBER_AT: return m.numberAt(a[0], a[1], a[2]);
                case Calls.IS_CHANGED: return m.isChanged(a[0], a[1]);
                case Calls.SEEN: return m.seen(a[0], a[1]);
                case Calls.NOTED: return m.noted(a[0]);
                case Calls.TAKEN: return m.taken(a[0]);
                case Calls.VERSIONS: return m.versions.size();
                case Calls.VERSION: return m.version(a[0], a[1]);
                case Calls.AS_OF: return m.asOf(a[0], a[1]);
                case Calls.LOCK_OF: return m.lockOf(a[0]);
                case Calls.RIGHT: return m.right(a[0], a[1]);
                case Calls.COUNT: return m.count(a[0]);
                default: return m.lost();
            }
        } catch (RuntimeException e) {
            return Calls.numberOf(e);
        }
    }

    private boolean isSame(int call) {
        record.add(Twins.call(call, a));
        long due = modelAnswer(model, call, a);
        long got = Calls.answer(house, call, a);
        Due.is(told + " " + Calls.told(call, a), Calls.name(got), Calls.name(due));
        return got == due;
    }

    private List<int[]> allQuestions() {
        List<int[]> all = new ArrayList<>();
        all.add(Twins.call(Calls.TIME));
        all.add(Twins.call(Calls.VERSIONS));
        all.add(Twins.call(Calls.LOST));
        for (int m = 0; m < 3; m++) {
            all.add(Twins.call(Calls.NOTED, m));
            all.add(Twins.call(Calls.TAKEN, m));
            for (int file = 0; file < 16; file++) {
                all.add(Twins.call(Calls.STATE_OF, m, file));
                all.add(Twins.call(Calls.FOLDER_OF, m, file));
                all.add(Twins.call(Calls.IS_CHANGED, m, file));
                all.add(Twins.call(Calls.SEEN, m, file));
                for (int place = 0; place < 13; place++) {
                    all.add(Twins.call(Calls.NUMBER_AT, m, file, place));
                }
            }
            for (int folder = 0; folder < 4; folder++) {
                all.add(Twins.call(Calls.RIGHT, folder, m));
            }
        }
        for (int what = 0; what < 8; what++) {
            all.add(Twins.call(Calls.COUNT, what));
        }
        for (int n = 0; n < model.versions.size(); n++) {
            for (int what = 0; what < 6; what++) {
                all.add(Twins.call(Calls.VERSION, n, what));
            }
        }
        for (int file = 0; file < 16; file++) {
            all.add(Twins.call(Calls.LOCK_OF, file));
            all.add(Twins.call(Calls.AS_OF, file, model.time));
            all.add(Twins.call(Calls.AS_OF, file, dice.nextInt(model.time + 1)));
        }
        return all;
    }

    /** No object gets more than 512 calls, so that the questions are spread over houses that came the same way. */
    private boolean asksAll() {
        KeeperHouse asked = house;
        int left = Twins.MOST_CALLS - record.size();
        for (int[] question : allQuestions()) {
            if (left <= 0) {
                asked = new KeeperHouse();
                for (int[] call : record) {
                    Calls.answer(asked, call[0], Twins.arguments(call));
                }
                left = Twins.MOST_CALLS - record.size();
            }
            left--;
            int[] q = Twins.arguments(question);
            long due = modelAnswer(model, question[0], q);
            long got = Calls.answer(asked, question[0], q);
            Due.is(told + ", then " + Calls.told(question[0], q), Calls.name(got), Calls.name(due));
            if (got != due) {
                return false;
            }
        }
        return true;
    }

    private int anyHour() {
        int back = dice.nextInt(3) == 0 ? dice.nextInt(model.time + 1) : dice.nextInt(Math.min(model.time, 60) + 1);
        return model.time - back;
    }

    private void choose(int call) {
        int machine = dice.nextInt(3);
        int file = dice.nextInt(files);
        a[0] = machine;
        a[1] = file;
        a[2] = 0;
        a[3] = 0;
        switch (call) {
            case Calls.DRAFT: a[0] = dice.nextInt(numbers); break;
            case Calls.MOVE: a[2] = dice.nextInt(4); break;
            case Calls.LATE: a[1] = dice.nextInt(2) * dice.nextInt(30); break;
            case Calls.ROOM: a[1] = dice.nextInt(3) == 0 ? 100 : dice.nextInt(40); break;
            case Calls.PIN: a[2] = dice.nextInt(3) == 0 ? 1 : 0; break;
            case Calls.UPLOAD: a[1] = dice.nextInt(3) == 0 ? dice.nextInt(3) : dice.nextInt(101); break;
            case Calls.LOCK: a[2] = 1 + dice.nextInt(48); break;
            case Calls.BREAK_LOCK: a[0] = file; break;
            case Calls.SHARE:
                a[0] = dice.nextInt(4);
                a[1] = machine;
                a[2] = dice.nextInt(10) < 6 ? 2 : dice.nextInt(3);
                a[3] = dice.nextInt(3) == 0 ? 1 + dice.nextInt(30) : 2000;
                break;
            case Calls.HOLD:
                a[0] = file;
                a[1] = anyHour();
                a[2] = Math.min(2000, a[1] + dice.nextInt(30));
                break;
            case Calls.RESTORE: a[0] = file; a[1] = anyHour(); break;
            case Calls.RESTORE_FOLDER: a[0] = dice.nextInt(4); a[1] = anyHour(); break;
            case Calls.DAMAGE: a[0] = dice.nextInt(Math.max(1, model.packs)); break;
            case Calls.FOLLOW: a[0] = dice.nextInt(3) == 0 ? 1 + dice.nextInt(120) : 1 + dice.nextInt(4); break;
            case Calls.VERSION: a[0] = dice.nextInt(model.versions.size() + 2) - 1; break;
            case Calls.PASS: a[0] = dice.nextInt(5) == 0 ? 1 + dice.nextInt(100) : 1 + dice.nextInt(12); break;
            default: break;
        }
        if (dice.nextInt(wildness) == 0) {
            a[dice.nextInt(4)] = WILD[dice.nextInt(WILD.length)];
        }
    }

    private int anyCall() {
        int throwOf = dice.nextInt(100);
        if (throwOf < 22) {
            return Calls.DRAFT;
        }
        if (throwOf < 36) {
            return Calls.WRITE;
        }
        if (throwOf < 58) {
            return OFTEN[dice.nextInt(OFTEN.length)];
        }
        if (throwOf < 66) {
            return Calls.PASS;
        }
        return dice.nextInt(throwOf < 96 ? Calls.FIRST_QUESTION : Calls.ALL);
    }

    private boolean run(long seed) {
        int steps = seed % 10 == 0 ? Twins.MOST_CALLS : 20 + dice.nextInt(400);
        for (int step = 0; step < steps; step++) {
            told = "run " + seed + " step " + step;
            int call = anyCall();
            choose(call);
            if (!isSame(call)) {
                return false;
            }
        }
        for (Map.Entry<String, Integer> entry : model.happened.entrySet()) {
            happened.merge(entry.getKey(), entry.getValue(), Integer::sum);
        }
        return steps == Twins.MOST_CALLS || asksAll();
    }

    public static void main(String[] args) {
        for (long seed = 1; seed <= RUNS; seed++) {
            if (!new ModelTest(seed).run(seed)) {
                break;
            }
        }
        for (String what : MUST_HAPPEN) {
            Due.is("it happened in the runs: " + what, happened.containsKey(what), true);
        }
        if (args.length > 1) {
            System.out.println(happened);
        }
        Due.end("ModelTest");
    }
}
