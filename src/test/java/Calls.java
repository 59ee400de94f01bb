/** The calls of the face by numbers, so that they can be recorded, made again, and compared. */
final class Calls {
    /** What stands for an answer where the call throws. */
    static final long NO_INDEX = -1001;
    static final long NO_ARGUMENT = -1002;
    static final long NO_STATE = -1003;

    static final int DRAFT = 0, WRITE = 1, MOVE = 2, ERASE = 3, LATE = 4, LOSE = 5, SCAN = 6, ROOM = 7, PIN = 8;
    static final int UPLOAD = 9, PULL = 10, OPEN = 11, LOCK = 12, BREAK_LOCK = 13, SHARE = 14;
    static final int HOLD = 15, RELEASE = 16, THIN = 17, RESTORE = 18, RESTORE_FOLDER = 19;
    static final int DAMAGE = 20, SCRUB = 21, FOLLOW = 22, PASS = 23;
    static final int TIME = 24, STATE_OF = 25, FOLDER_OF = 26, NUMBER_AT = 27, IS_CHANGED = 28, SEEN = 29;
    static final int NOTED = 30, TAKEN = 31;
    static final int VERSIONS = 32, VERSION = 33, AS_OF = 34, LOCK_OF = 35, RIGHT = 36, COUNT = 37, LOST = 38;
    static final int ALL = 39;
    static final int FIRST_QUESTION = TIME;

    static final String[] NAMES = {"draft", "write", "move", "erase", "late", "lose", "scan", "room", "pin", "upload",
        "pull", "open", "lock", "breakLock", "share", "hold", "release", "thin", "restore", "restoreFolder", "damage",
        "scrub", "follow", "pass", "time", "stateOf", "folderOf", "numberAt", "isChanged", "seen", "noted", "taken",
        "versions", "version", "asOf", "lockOf", "right", "count", "lost"};
    private static final int[] ARGUMENTS = {1, 2, 3, 2, 2, 1, 1, 2, 3, 2, 1, 2, 3, 1, 4, 3, 0, 0, 2, 2, 1, 0, 1, 1,
        0, 2, 2, 3, 2, 2, 1, 1, 0, 2, 2, 1, 2, 1, 0};

    private Calls() {
    }

    static int argumentsOf(int call) {
        return ARGUMENTS[call];
    }

    static String told(int call, int... a) {
        StringBuilder text = new StringBuilder(NAMES[call]).append('(');
        for (int i = 0; i < ARGUMENTS[call]; i++) {
            text.append(i == 0 ? "" : ", ").append(a[i]);
        }
        return text.append(')').toString();
    }

    /** An answer as it is told. */
    static String name(long answer) {
        return answer == NO_INDEX ? "IndexOutOfBoundsException" : answer == NO_ARGUMENT ? "IllegalArgumentException"
                : answer == NO_STATE ? "IllegalStateException" : String.valueOf(answer);
    }

    /** The very class counts: the machine's own exceptions are classes below those of the document. */
    static long numberOf(RuntimeException e) {
        if (e.getClass() == IndexOutOfBoundsException.class) {
            return NO_INDEX;
        }
        if (e.getClass() == IllegalArgumentException.class) {
            return NO_ARGUMENT;
        }
        if (e.getClass() == IllegalStateException.class) {
            return NO_STATE;
        }
        throw e;
    }

    static long answer(KeeperHouse h, int call, int... a) {
        try {
            return call < FIRST_QUESTION ? done(h, call, a) : asked(h, call, a);
        } catch (RuntimeException e) {
            return numberOf(e);
        }
    }

    private static long done(KeeperHouse h, int call, int[] a) {
        switch (call) {
            case DRAFT: return h.draft(a[0]);
            case WRITE: return h.write(a[0], a[1]);
            case MOVE: return h.move(a[0], a[1], a[2]);
            case ERASE: return h.erase(a[0], a[1]);
            case LATE: return h.late(a[0], a[1]);
            case LOSE: return h.lose(a[0]);
            case SCAN: return h.scan(a[0]);
            case ROOM: return h.room(a[0], a[1]);
            case PIN: return h.pin(a[0], a[1], (a[2] & 1) != 0) ? 1 : 0;
            case UPLOAD: return h.upload(a[0], a[1]);
            case PULL: return h.pull(a[0]);
            case OPEN: return h.open(a[0], a[1]);
            case LOCK: return h.lock(a[0], a[1], a[2]);
            case BREAK_LOCK: return h.breakLock(a[0]);
            case SHARE: h.share(a[0], a[1], a[2], a[3]); return 0;
            case HOLD: return h.hold(a[0], a[1], a[2]);
            case RELEASE: return h.release();
            case THIN: return h.thin();
            case RESTORE: return h.restore(a[0], a[1]);
            case RESTORE_FOLDER: return h.restoreFolder(a[0], a[1]);
            case DAMAGE: return h.damage(a[0]);
            case SCRUB: return h.scrub();
            case FOLLOW: return h.follow(a[0]);
            case PASS: return h.pass(a[0]);
            default: throw new AssertionError(call);
        }
    }

    private static long asked(KeeperHouse h, int call, int[] a) {
        switch (call) {
            case TIME: return h.time();
            case STATE_OF: return h.stateOf(a[0], a[1]);
            case FOLDER_OF: return h.folderOf(a[0], a[1]);
            case NUMBER_AT: return h.numberAt(a[0], a[1], a[2]);
            case IS_CHANGED: return h.isChanged(a[0], a[1]) ? 1 : 0;
            case SEEN: return h.seen(a[0], a[1]);
            case NOTED: return h.noted(a[0]);
            case TAKEN: return h.taken(a[0]);
            case VERSIONS: return h.versions();
            case VERSION: return h.version(a[0], a[1]);
            case AS_OF: return h.asOf(a[0], a[1]);
            case LOCK_OF: return h.lockOf(a[0]);
            case RIGHT: return h.right(a[0], a[1]);
            case COUNT: return h.count(a[0]);
            case LOST: return h.lost();
            default: throw new AssertionError(call);
        }
    }
}
