/**
 * Each argument of each call: the least and the greatest one are taken, those just beyond them and the farthest ones
 * are refused, each kind by its exception, the one that is named first if several apply; and nothing is changed.
 * Questions change nothing either.
 */
public final class RefusedCallsTest {
    private static final int FAR = Integer.MAX_VALUE;

    /** An argument is the number of something (then it is refused as an index), or a range. */
    private static final class Argument {
        final boolean isIndex;
        final int least;
        final int most;

        Argument(boolean isIndex, int least, int most) {
            this.isIndex = isIndex;
            this.least = least;
            this.most = most;
        }

        boolean isFine(int value) {
            return value >= least && value <= most;
        }

        int[] wrongOnes() {
            int[] all = {Integer.MIN_VALUE, least - 1, most + 1, FAR};
            int count = 0;
            for (int value : all) {
                if (!isFine(value)) {
                    all[count] = value;
                    count++;
                }
            }
            int[] wrong = new int[count];
            System.arraycopy(all, 0, wrong, 0, count);
            return wrong;
        }
    }

    private final House x;
    private final String state;
    private final int now;
    private final int versions;
    private final int packs;

    private RefusedCallsTest(String state, House x) {
        this.x = x;
        this.state = state;
        now = x.time();
        versions = x.versions();
        packs = x.count(1);
    }

    private static Argument index(int count) {
        return new Argument(true, 0, count - 1);
    }

    private static Argument range(int least, int most) {
        return new Argument(false, least, most);
    }

    private Argument[] argumentsOf(int call, int from) {
        Argument machine = index(3);
        Argument file = index(16);
        Argument folder = index(4);
        Argument any = range(Integer.MIN_VALUE, Integer.MAX_VALUE);
        Argument time = range(0, now);
        switch (call) {
            case Calls.DRAFT: return new Argument[] {range(0, 9)};
            case Calls.WRITE:
            case Calls.ERASE:
            case Calls.OPEN:
            case Calls.STATE_OF:
            case Calls.FOLDER_OF:
            case Calls.IS_CHANGED:
            case Calls.SEEN: return new Argument[] {machine, file};
            case Calls.MOVE: return new Argument[] {machine, file, folder};
            case Calls.LATE: return new Argument[] {machine, range(0, 50)};
            case Calls.LOSE:
            case Calls.SCAN:
            case Calls.PULL:
            case Calls.NOTED:
            case Calls.TAKEN: return new Argument[] {machine};
            case Calls.ROOM: return new Argument[] {machine, range(0, 200)};
            case Calls.PIN: return new Argument[] {machine, file, any};
            case Calls.UPLOAD: return new Argument[] {machine, range(0, 100)};
            case Calls.LOCK: return new Argument[] {machine, file, range(1, 48)};
            case Calls.BREAK_LOCK:
            case Calls.LOCK_OF: return new Argument[] {file};
            case Calls.SHARE: return new Argument[] {folder, machine, range(0, 2), range(1, 2000)};
            case Calls.HOLD: return new Argument[] {file, range(0, 2000), range(Math.max(from, 0), 2000)};
            case Calls.RESTORE:
            case Calls.AS_OF: return new Argument[] {file, time};
            case Calls.RESTORE_FOLDER: return new Argument[] {folder, time};
            case Calls.DAMAGE: return new Argument[] {index(packs)};
            case Calls.FOLLOW: return new Argument[] {range(1, 120)};
            case Calls.PASS: return new Argument[] {range(1, 100)};
            case Calls.NUMBER_AT: return new Argument[] {machine, file, new Argument(true, 0, FAR)};
            case Calls.VERSION: return new Argument[] {index(versions), range(0, 5)};
            case Calls.RIGHT: return new Argument[] {folder, machine};
            case Calls.COUNT: return new Argument[] {range(0, 7)};
            default: return new Argument[0];
        }
    }

    /** What is due by the arguments alone; 0 if they are all fine. */
    private long dueFor(int call, int[] a) {
        Argument[] arguments = argumentsOf(call, a[1]);
        long due = 0;
        for (int i = 0; i < arguments.length; i++) {
            if (!arguments[i].isFine(a[i])) {
                due = arguments[i].isIndex || due == Calls.NO_INDEX ? Calls.NO_INDEX : Calls.NO_ARGUMENT;
            }
        }
        return due;
    }

    private void look(int call, int[] a) {
        long due = dueFor(call, a);
        String what = state + ": " + Calls.told(call, a);
        if (due != 0) {
            x.refuses(what, due, call, a);
            return;
        }
        long answer = x.wouldAnswer(call, a);
        Due.is(what + " has fine arguments", answer != Calls.NO_INDEX && answer != Calls.NO_ARGUMENT, true);
        if (call >= Calls.FIRST_QUESTION) {
            x.changesNothing(what + ", a question,", call, a);
        }
    }

    /** The bits of an argument's place in this mask tell that it is wrong; the others are fine ones. */
    private void lookWithWrong(int call, int mask, boolean isGreatest) {
        int count = Calls.argumentsOf(call);
        int[] a = new int[4];
        int turns = 1;
        for (int turn = 0; turn < turns; turn++) {
            for (int i = 0; i < count; i++) {
                Argument argument = argumentsOf(call, a[1])[i];
                int[] wrong = argument.wrongOnes();
                if ((mask & 1 << i) == 0 || wrong.length == 0) {
                    a[i] = isGreatest ? argument.most : argument.least;
                } else {
                    a[i] = wrong[(turn + i) % wrong.length];
                    turns = Math.max(turns, mask == (1 << i) ? wrong.length : 2);
                }
            }
            look(call, a);
        }
    }

    private void lookAtAll() {
        for (int call = 0; call < Calls.ALL; call++) {
            Due.is("arguments of " + Calls.NAMES[call], argumentsOf(call, 0).length, Calls.argumentsOf(call));
            Due.sentence(Calls.NAMES[call] + ", its arguments' ranges");
            for (int mask = 0; mask < 1 << Calls.argumentsOf(call); mask++) {
                lookWithWrong(call, mask, false);
                lookWithWrong(call, mask, true);
            }
        }
    }

    /** One argument at its least, the others at their greatest, and the other way round. */
    private void lookAtMixedOnes() {
        for (int call = 0; call < Calls.ALL; call++) {
            int count = Calls.argumentsOf(call);
            for (int mask = 0; mask < 1 << count; mask++) {
                int[] a = new int[4];
                for (int i = 0; i < count; i++) {
                    Argument argument = argumentsOf(call, a[1])[i];
                    a[i] = (mask & 1 << i) == 0 ? argument.least : argument.most;
                }
                look(call, a);
            }
        }
    }

    private static House busy() {
        House x = new House();
        x.put(0, 0, "1203");
        x.put(0, 1, "4444");
        x.put(0, 5, "56780");
        x.put(0, 9, "111122223333");
        x.fetch(1, 0);
        x.open(1, 1);
        x.fetch(2, 5);
        x.follow(2);
        x.pass(3);
        x.put(0, 1, "4445");
        x.delete(0, 9);
        x.pull(1);
        x.damage(1);
        x.late(1, 7);
        x.write(1, 2, "77");
        x.late(1, 20);
        x.move(1, 0, 2);
        x.write(2, 3, "880990");
        x.write(2, 1, "9");
        x.upload(2, 1);
        x.pin(1, 1, true);
        x.room(2, 30);
        x.lock(0, 0, 10);
        x.lock(1, 3, 48);
        x.lock(2, 15, 3);
        x.share(0, 1, KeeperHouse.READ, 5);
        x.share(3, 2, KeeperHouse.NO_RIGHT, 2000);
        x.share(1, 0, KeeperHouse.WRITE, 40);
        x.hold(0, 0, 2);
        x.hold(1, 3, 3);
        x.pass(2);
        x.draftAll("314");
        return x;
    }

    /** Here every call that can be refused for the state is refused for it, if it is not for an argument. */
    private static House full() {
        House x = new House();
        x.put(0, 0, "1");
        x.pass(1);
        x.put(0, 0, "2");
        x.pass(1);
        for (int made = 2; made < 101; made++) {
            x.restore(0, made % 2);
        }
        x.passAll(1958);
        x.late(1, 50);
        x.write(1, 3, "123");
        x.pass(40);
        x.lock(1, 0, 48);
        x.lock(1, 15, 48);
        for (int hold = 0; hold < 10; hold++) {
            x.hold(hold, hold, 2000);
        }
        x.draftAll("123456789012");
        return x;
    }

    private static void stateIsLookedAtLast() {
        House x = full();
        Due.sentence("Throws IllegalStateException, of a full house");
        x.noState("12 are drafted", Calls.DRAFT, 0);
        x.noState("101 versions", Calls.UPLOAD, 0, 0);
        x.noState("101 versions", Calls.RESTORE, 0, 0);
        x.noState("101 versions", Calls.RESTORE_FOLDER, 0, 0);
        x.noState("10 holds", Calls.HOLD, 0, 0, 0);
        x.noState("2000 hours", Calls.PASS, 1);
        x.noState("2000 hours", Calls.PASS, 100);
        x.noState("another one's lock", Calls.LOCK, 0, 0, 1);
        x.noState("another one's lock", Calls.LOCK, 2, 15, 48);
        x.noState("a lock of nobody", Calls.BREAK_LOCK, 1);
        x.noState("not there", Calls.MOVE, 0, 1, 0);
        x.noState("not there", Calls.ERASE, 0, 1);
        x.noState("not there", Calls.OPEN, 2, 15);
        Due.sentence("Throws IllegalStateException, of a new house");
        House y = new House();
        y.noState("nothing is drafted", Calls.WRITE, 0, 0);
        y.noState("not there", Calls.MOVE, 0, 0, 0);
        y.noState("not there", Calls.ERASE, 0, 0);
        y.noState("not there", Calls.OPEN, 0, 0);
        y.noState("a lock of nobody", Calls.BREAK_LOCK, 0);
    }

    public static void main(String[] args) {
        House[] houses = {new House(), busy(), full()};
        String[] states = {"new", "busy", "full"};
        for (int i = 0; i < houses.length; i++) {
            RefusedCallsTest test = new RefusedCallsTest(states[i], houses[i]);
            test.lookAtAll();
            test.lookAtMixedOnes();
        }
        stateIsLookedAtLast();
        Due.end("RefusedCallsTest");
    }
}
