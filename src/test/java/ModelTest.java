import java.util.Map;
import java.util.Random;
import java.util.TreeMap;

/** Random runs (of fixed seeds) in which the house must answer as the model does, exceptions among it. */
public final class ModelTest {
    private static final int RUNS = 3000;
    private static final int CALLS = 511;
    private static final long IOOBE = -1001;
    private static final long IAE = -1002;
    private static final long ISE = -1003;
    private static final int[] WILD = {-1, -2, Integer.MIN_VALUE, Integer.MAX_VALUE, 2, 3, 4, 5, 6, 7, 8, 9, 10,
        11, 12, 13, 15, 16, 17, 48, 49, 50, 51, 100, 101, 119, 120, 121, 200, 201, 1999, 2000, 2001};
    private static final String[] MUST_HAPPEN = {"wrote a known file", "noted, but not changed",
        "damaged, had all the same", "piece shared", "stopped for want of pieces", "locked by another",
        "acknowledged", "deletion acknowledged", "same deletion seen", "same content seen",
        "erasing forgotten", "acknowledged over a deletion", "refused, no file free", "refused, no right",
        "both kept", "kept as another, itself not there", "pull without a right", "pulled a folder",
        "pulled a deletion", "pulled", "a piece is missing", "no room", "put away", "held",
        "thinned in a span", "thinned for age", "an entry dropped", "a piece stays for a noted file",
        "pieces dropped", "restored a deletion", "restored", "restored in the folder", "restored into",
        "restored out of", "mended", "followed a damaged piece", "lost"};

    private static final Map<String, Integer> happened = new TreeMap<>();

    private final Random dice;
    private final KeeperHouse house = new KeeperHouse();
    private final Model model = new Model();
    private final int files;
    private final int wildness;
    private final int numbers;
    private final int[] a = new int[4];
    private String told = "";

    private ModelTest(long seed) {
        dice = new Random(seed);
        files = dice.nextInt(3) == 0 ? 16 : 2 + dice.nextInt(6);
        wildness = dice.nextInt(4) == 0 ? 8 : 120;
        numbers = 2 + dice.nextInt(4);
    }

    private static long houseAnswer(KeeperHouse h, int call, int[] a) {
        try {
            switch (call) {
                case 0: return h.draft(a[0]);
                case 1: return h.write(a[0], a[1]);
                case 2: return h.move(a[0], a[1], a[2]);
                case 3: return h.erase(a[0], a[1]);
                case 4: return h.late(a[0], a[1]);
                case 5: return h.lose(a[0]);
                case 6: return h.scan(a[0]);
                case 7: return h.room(a[0], a[1]);
                case 8: return h.pin(a[0], a[1], (a[2] & 1) != 0) ? 1 : 0;
                case 9: return h.upload(a[0], a[1]);
                case 10: return h.pull(a[0]);
                case 11: return h.open(a[0], a[1]);
                case 12: return h.lock(a[0], a[1], a[2]);
                case 13: return h.breakLock(a[0]);
                case 14: h.share(a[0], a[1], a[2], a[3]); return 0;
                case 15: return h.hold(a[0], a[1], a[2]);
                case 16: return h.release();
                case 17: return h.thin();
                case 18: return h.restore(a[0], a[1]);
                case 19: return h.restoreFolder(a[0], a[1]);
                case 20: return h.damage(a[0]);
                case 21: return h.scrub();
                case 22: return h.follow(a[0]);
                case 23: return h.pass(a[0]);
                case 24: return h.time();
                case 25: return h.stateOf(a[0], a[1]);
                case 26: return h.folderOf(a[0], a[1]);
                case 27: return h.numberAt(a[0], a[1], a[2]);
                case 28: return h.isChanged(a[0], a[1]) ? 1 : 0;
                case 29: return h.seen(a[0], a[1]);
                case 30: return h.noted(a[0]);
                case 31: return h.taken(a[0]);
                case 32: return h.versions();
                case 33: return h.version(a[0], a[1]);
                case 34: return h.asOf(a[0], a[1]);
                case 35: return h.lockOf(a[0]);
                case 36: return h.right(a[0], a[1]);
                case 37: return h.count(a[0]);
                default: return h.lost();
            }
        } catch (RuntimeException e) {
            return number(e);
        }
    }

    private static long modelAnswer(Model m, int call, int[] a) {
        try {
            switch (call) {
                case 0: return m.draft(a[0]);
                case 1: return m.write(a[0], a[1]);
                case 2: return m.move(a[0], a[1], a[2]);
                case 3: return m.erase(a[0], a[1]);
                case 4: return m.late(a[0], a[1]);
                case 5: return m.lose(a[0]);
                case 6: return m.scan(a[0]);
                case 7: return m.room(a[0], a[1]);
                case 8: return m.pin(a[0], a[1], (a[2] & 1) != 0);
                case 9: return m.upload(a[0], a[1]);
                case 10: return m.pull(a[0]);
                case 11: return m.open(a[0], a[1]);
                case 12: return m.lock(a[0], a[1], a[2]);
                case 13: return m.breakLock(a[0]);
                case 14: return m.share(a[0], a[1], a[2], a[3]);
                case 15: return m.hold(a[0], a[1], a[2]);
                case 16: return m.release();
                case 17: return m.thin();
                case 18: return m.restore(a[0], a[1]);
                case 19: return m.restoreFolder(a[0], a[1]);
                case 20: return m.damage(a[0]);
                case 21: return m.scrub();
                case 22: return m.follow(a[0]);
                case 23: return m.pass(a[0]);
                case 24: return m.time;
                case 25: return m.stateOf(a[0], a[1]);
                case 26: return m.folderOf(a[0], a[1]);
                case 27: return m.numberAt(a[0], a[1], a[2]);
                case 28: return m.isChanged(a[0], a[1]);
                case 29: return m.seen(a[0], a[1]);
                case 30: return m.noted(a[0]);
                case 31: return m.taken(a[0]);
                case 32: return m.versions.size();
                case 33: return m.version(a[0], a[1]);
                case 34: return m.asOf(a[0], a[1]);
                case 35: return m.lockOf(a[0]);
                case 36: return m.right(a[0], a[1]);
                case 37: return m.count(a[0]);
                default: return m.lost();
            }
        } catch (RuntimeException e) {
            return number(e);
        }
    }

    private static long number(RuntimeException e) {
        if (e.getClass() == IndexOutOfBoundsException.class) {
            return IOOBE;
        }
        if (e.getClass() == IllegalArgumentException.class) {
            return IAE;
        }
        if (e.getClass() == IllegalStateException.class) {
            return ISE;
        }
        throw e;
    }

    private boolean isSame(int call) {
        long due = modelAnswer(model, call, a);
        long got = houseAnswer(house, call, a);
        Due.is(told + " call " + call + " (" + a[0] + ", " + a[1] + ", " + a[2] + ", " + a[3] + ")", got, due);
        return got == due;
    }

    private boolean asks(int call, int first, int second, int third) {
        a[0] = first;
        a[1] = second;
        a[2] = third;
        a[3] = 0;
        return isSame(call);
    }

    private boolean asksAll() {
        boolean same = asks(24, 0, 0, 0) && asks(32, 0, 0, 0) && asks(38, 0, 0, 0);
        for (int m = 0; m < 3 && same; m++) {
            same = asks(30, m, 0, 0) && asks(31, m, 0, 0);
            for (int file = 0; file < 16 && same; file++) {
                same = asks(25, m, file, 0) && asks(26, m, file, 0) && asks(28, m, file, 0) && asks(29, m, file, 0);
                for (int place = 0; place < 13 && same; place++) {
                    same = asks(27, m, file, place);
                }
            }
            for (int folder = 0; folder < 4 && same; folder++) {
                same = asks(36, folder, m, 0);
            }
        }
        for (int what = 0; what < 8 && same; what++) {
            same = asks(37, what, 0, 0);
        }
        for (int n = 0; n < model.versions.size() && same; n++) {
            for (int what = 0; what < 6 && same; what++) {
                same = asks(33, n, what, 0);
            }
        }
        for (int file = 0; file < 16 && same; file++) {
            same = asks(35, file, 0, 0);
            same = same && asks(34, file, model.time, 0) && asks(34, file, dice.nextInt(model.time + 1), 0);
        }
        return same;
    }

    private int anyHour() {
        int back = dice.nextInt(3) == 0 ? dice.nextInt(model.time + 1) : dice.nextInt(Math.min(model.time, 60) + 1);
        return model.time - back;
    }

    private void choose(int call) {
        int machine = dice.nextInt(3);
        int file = dice.nextInt(files);
        a[0] = machine;
        a[1] = file;
        a[2] = 0;
        a[3] = 0;
        switch (call) {
            case 0: a[0] = dice.nextInt(numbers); break;
            case 2: a[2] = dice.nextInt(4); break;
            case 4: a[1] = dice.nextInt(2) * dice.nextInt(30); break;
            case 7: a[1] = dice.nextInt(3) == 0 ? 100 : dice.nextInt(40); break;
            case 8: a[2] = dice.nextInt(3) == 0 ? 1 : 0; break;
            case 9: a[1] = dice.nextInt(3) == 0 ? dice.nextInt(3) : dice.nextInt(101); break;
            case 12: a[2] = 1 + dice.nextInt(48); break;
            case 13: a[0] = file; break;
            case 14:
                a[0] = dice.nextInt(4);
                a[1] = machine;
                a[2] = dice.nextInt(10) < 6 ? 2 : dice.nextInt(3);
                a[3] = dice.nextInt(3) == 0 ? 1 + dice.nextInt(30) : 2000;
                break;
            case 15:
                a[0] = file;
                a[1] = anyHour();
                a[2] = Math.min(2000, a[1] + dice.nextInt(30));
                break;
            case 18: a[0] = file; a[1] = anyHour(); break;
            case 19: a[0] = dice.nextInt(4); a[1] = anyHour(); break;
            case 20: a[0] = dice.nextInt(Math.max(1, model.packs)); break;
            case 22: a[0] = dice.nextInt(3) == 0 ? 1 + dice.nextInt(120) : 1 + dice.nextInt(4); break;
            case 33: a[0] = dice.nextInt(model.versions.size() + 2) - 1; break;
            case 23: a[0] = dice.nextInt(5) == 0 ? 1 + dice.nextInt(100) : 1 + dice.nextInt(12); break;
            default: break;
        }
        if (dice.nextInt(wildness) == 0) {
            a[dice.nextInt(4)] = WILD[dice.nextInt(WILD.length)];
        }
    }

    private int anyCall() {
        int throwOf = dice.nextInt(100);
        if (throwOf < 22) {
            return 0;
        }
        if (throwOf < 36) {
            return 1;
        }
        if (throwOf < 58) {
            int[] often = {2, 2, 3, 9, 9, 9, 10, 10, 11, 11, 6};
            return often[dice.nextInt(often.length)];
        }
        if (throwOf < 66) {
            return 23;
        }
        return throwOf < 96 ? dice.nextInt(24) : 24 + dice.nextInt(15);
    }

    private boolean run(long seed) {
        for (int step = 0; step < CALLS; step++) {
            told = "run " + seed + " step " + step;
            int call = anyCall();
            choose(call);
            if (!isSame(call)) {
                return false;
            }
            if ((step % 64 == 63 || dice.nextInt(40) == 0) && !asksAll()) {
                return false;
            }
        }
        for (Map.Entry<String, Integer> entry : model.happened.entrySet()) {
            happened.merge(entry.getKey(), entry.getValue(), Integer::sum);
        }
        return asksAll();
    }

    public static void main(String[] args) {
        for (long seed = 1; seed <= RUNS; seed++) {
            if (!new ModelTest(seed).run(seed)) {
                break;
            }
        }
        for (String what : MUST_HAPPEN) {
            Due.is("it happened in the runs: " + what, happened.containsKey(what), true);
        }
        if (args.length > 1) {
            System.out.println(happened);
        }
        Due.end("ModelTest");
    }
}
