/** For each promise of the document: ordinary inputs, the edges that it names, and wrong inputs. */
public final class PromisesTest {
    private static final int NONE = KeeperHouse.NONE;
    private static final int NO_RIGHT = KeeperHouse.NO_RIGHT;
    private static final int READ = KeeperHouse.READ;
    private static final int WRITE = KeeperHouse.WRITE;
    private static final int ABSENT = KeeperHouse.ABSENT;
    private static final int KNOWN = KeeperHouse.KNOWN;
    private static final int THERE = KeeperHouse.THERE;
    private static final int[] NO_MACHINES = {-1, 3, Integer.MIN_VALUE, Integer.MAX_VALUE};
    private static final int[] NO_FILES = {-1, 16, Integer.MIN_VALUE, Integer.MAX_VALUE};
    private static final int[] NO_FOLDERS = {-1, 4, Integer.MIN_VALUE, Integer.MAX_VALUE};

    private static void draft(KeeperHouse x, String numbers) {
        for (int i = 0; i < numbers.length(); i++) {
            Due.is("draft " + numbers, x.draft(numbers.charAt(i) - '0'), i + 1);
        }
    }

    private static void write(KeeperHouse x, int machine, int file, String numbers) {
        draft(x, numbers);
        Due.is("write " + numbers, x.write(machine, file), numbers.length());
    }

    /** Writes, and uploads all that is noted. */
    private static void put(KeeperHouse x, int machine, int file, String numbers) {
        write(x, machine, file, numbers);
        Due.is("upload " + numbers, x.upload(machine, 100), 1);
    }

    private static void passAll(KeeperHouse x, int hours) {
        for (int left = hours; left > 0; left -= Math.min(left, 100)) {
            x.pass(Math.min(left, 100));
        }
    }

    private static void content(KeeperHouse x, int machine, int file, String numbers) {
        for (int i = 0; i < numbers.length(); i++) {
            Due.is("number " + i + " of " + numbers, x.numberAt(machine, file, i), numbers.charAt(i) - '0');
        }
        Due.is("behind " + numbers, x.numberAt(machine, file, numbers.length()), NONE);
    }

    private static void noMachineOrFile(String what, KeeperHouse x, MachineFile call) {
        for (int machine : NO_MACHINES) {
            Due.noIndex(what + " at machine " + machine, () -> call.answer(x, machine, 0));
        }
        for (int file : NO_FILES) {
            Due.noIndex(what + " of file " + file, () -> call.answer(x, 0, file));
        }
        call.answer(x, 2, 15);
    }

    private interface MachineFile {
        long answer(KeeperHouse x, int machine, int file);
    }

    private static void promise1() {
        KeeperHouse x = new KeeperHouse();
        Due.is("versions", x.versions(), 0);
        Due.is("time", x.time(), 0);
        Due.is("lost", x.lost(), 0);
        for (int what = 0; what <= 7; what++) {
            Due.is("count " + what, x.count(what), 0);
        }
        for (int machine = 0; machine < 3; machine++) {
            Due.is("noted", x.noted(machine), 0);
            Due.is("taken", x.taken(machine), 0);
            Due.is("late", x.late(machine, 0), 0);
            Due.is("room", x.room(machine, 100), 100);
            for (int file = 0; file < 16; file++) {
                Due.is("state", x.stateOf(machine, file), ABSENT);
                Due.is("folder", x.folderOf(machine, file), NONE);
                Due.is("changed", x.isChanged(machine, file), false);
                Due.is("seen", x.seen(machine, file), NONE);
                Due.is("pinned", x.pin(machine, file, false), false);
                Due.is("lock", x.lockOf(file), NONE);
            }
            for (int folder = 0; folder < 4; folder++) {
                Due.is("right", x.right(folder, machine), WRITE);
            }
        }
        KeeperHouse other = new KeeperHouse();
        write(x, 0, 0, "1");
        Due.is("another object is not touched", other.stateOf(0, 0), ABSENT);
        Due.noState("nor its draft", () -> other.write(0, 0));
    }

    private static void promise2() {
        KeeperHouse x = new KeeperHouse();
        for (int number : new int[] {-1, 10, Integer.MIN_VALUE, Integer.MAX_VALUE}) {
            Due.noArgument("draft " + number, () -> x.draft(number));
        }
        Due.is("0 is drafted", x.draft(0), 1);
        Due.is("9 is drafted", x.draft(9), 2);
        for (int i = 3; i <= 12; i++) {
            Due.is("drafted", x.draft(5), i);
        }
        Due.noState("a thirteenth", () -> x.draft(5));
        Due.noArgument("the range is looked at first", () -> x.draft(10));
        Due.is("twelve", x.write(0, 0), 12);
        content(x, 0, 0, "095555555555");
        Due.is("drafts again", x.draft(1), 1);
    }

    private static void promise3() {
        KeeperHouse x = new KeeperHouse();
        Due.noState("nothing is drafted", () -> x.write(0, 0));
        Due.noIndex("the index is looked at first", () -> x.write(3, 0));
        noMachineOrFile("write", x, (y, machine, file) -> {
            y.draft(1);
            return y.write(machine, file);
        });
        KeeperHouse y = new KeeperHouse();
        write(y, 1, 6, "120");
        Due.is("is there", y.stateOf(1, 6), THERE);
        Due.is("in the folder of its number", y.folderOf(1, 6), 2);
        Due.is("not at another machine", y.stateOf(0, 6), ABSENT);
        Due.noState("the draft is empty then", () -> y.write(1, 6));
        y.move(1, 6, 3);
        write(y, 1, 6, "99");
        content(y, 1, 6, "99");
        Due.is("stays in its folder", y.folderOf(1, 6), 3);
        y.erase(1, 6);
        write(y, 1, 6, "7");
        Due.is("a new one again", y.folderOf(1, 6), 2);
        Due.is("noted once", y.noted(1), 1);
        y.move(1, 6, 0);
        y.upload(1, 9);
        y.pull(0);
        write(y, 0, 6, "7");
        Due.is("a known one is there, in its folder", y.folderOf(0, 6), 0);
        Due.is("it is as it was seen", y.isChanged(0, 6), false);
        Due.is("its event is noted all the same", y.noted(0), 1);
        KeeperHouse z = new KeeperHouse();
        z.room(0, 0);
        write(z, 0, 0, "111111111111");
        Due.is("writing asks for no room, but takes it", z.taken(0), 12);
    }

    private static void promise4() {
        KeeperHouse x = new KeeperHouse();
        Due.noState("absent", () -> x.move(0, 1, 0));
        put(x, 0, 1, "12");
        x.pull(1);
        Due.noState("known only", () -> x.move(1, 1, 0));
        for (int folder : NO_FOLDERS) {
            Due.noIndex("folder " + folder, () -> x.move(0, 1, folder));
        }
        Due.noIndex("the index is looked at first", () -> x.move(0, 0, 4));
        for (int machine : NO_MACHINES) {
            Due.noIndex("machine " + machine, () -> x.move(machine, 1, 0));
        }
        for (int file : NO_FILES) {
            Due.noIndex("file " + file, () -> x.move(0, file, 0));
        }
        Due.is("folder before", x.move(0, 1, 3), 1);
        Due.is("folder then", x.folderOf(0, 1), 3);
        Due.is("changed", x.isChanged(0, 1), true);
        Due.is("noted", x.noted(0), 1);
        Due.is("back", x.move(0, 1, 1), 3);
        Due.is("as it was", x.isChanged(0, 1), false);
        Due.is("still noted", x.noted(0), 1);
        x.move(0, 1, 2);
        Due.is("a move is a version", x.upload(0, 0), 1);
        Due.is("in the new folder", x.version(1, 3), 2);
        Due.is("with the content", x.version(1, 4), 2);
        KeeperHouse y = new KeeperHouse();
        put(y, 0, 0, "1");
        Due.is("to the same folder", y.move(0, 0, 0), 0);
        Due.is("is an edit, that is noted", y.noted(0), 1);
    }

    private static void promise5() {
        KeeperHouse x = new KeeperHouse();
        Due.noState("absent", () -> x.erase(0, 0));
        put(x, 0, 0, "12");
        x.pull(1);
        Due.is("known", x.erase(1, 0), KNOWN);
        Due.is("there", x.erase(0, 0), THERE);
        Due.noState("erased", () -> x.erase(0, 0));
        Due.is("state", x.stateOf(0, 0), ABSENT);
        Due.is("folder", x.folderOf(0, 0), NONE);
        Due.is("number", x.numberAt(0, 0, 0), NONE);
        Due.is("changed", x.isChanged(0, 0), true);
        Due.is("noted", x.noted(1), 1);
        Due.is("takes no room", x.taken(0), 0);
        noMachineOrFile("erase", x, (y, machine, file) -> {
            y.draft(1);
            if (machine == 2) {
                y.write(machine, file);
            }
            return y.erase(machine, file);
        });
        Due.is("a deletion", x.upload(0, 0), 1);
        Due.is("without a folder", x.version(1, 3), NONE);
        Due.is("without numbers", x.version(1, 4), 0);
        KeeperHouse y = new KeeperHouse();
        write(y, 0, 0, "1");
        y.erase(0, 0);
        Due.is("what the house never had is not changed", y.isChanged(0, 0), false);
        Due.is("but noted", y.noted(0), 1);
        Due.is("no version", y.upload(0, 9), 0);
        Due.is("noted no more", y.noted(0), 0);
    }

    private static void promise6() {
        KeeperHouse x = new KeeperHouse();
        Due.is("0 at first", x.late(0, 50), 0);
        Due.is("50", x.late(0, 3), 50);
        Due.noArgument("51", () -> x.late(0, 51));
        Due.noArgument("-1", () -> x.late(0, -1));
        Due.noIndex("the index is looked at first", () -> x.late(3, 51));
        for (int machine : NO_MACHINES) {
            Due.noIndex("late at " + machine, () -> x.late(machine, 0));
        }
        write(x, 0, 5, "1");
        Due.is("stays as it is on its way", x.late(0, 1), 3);
        write(x, 0, 4, "1");
        Due.is("at another machine", x.late(1, 0), 0);
        x.pass(1);
        Due.is("the later one comes first", x.noted(0), 1);
        x.upload(0, 9);
        Due.is("it", x.version(0, 0), 4);
        x.pass(1);
        Due.is("not yet", x.noted(0), 0);
        x.pass(1);
        Due.is("now", x.noted(0), 1);
        x.late(0, 0);
        write(x, 0, 6, "1");
        Due.is("at once", x.noted(0), 2);
        x.upload(0, 9);
        Due.is("the first one first", x.version(1, 0), 5);
        KeeperHouse y = new KeeperHouse();
        y.late(0, 9);
        write(y, 0, 3, "1");
        y.late(0, 5);
        write(y, 0, 2, "2");
        write(y, 0, 1, "3");
        y.pass(10);
        y.upload(0, 9);
        Due.is("by the hours, in which they come", y.version(0, 0), 2);
        Due.is("of an hour the older one first", y.version(1, 0), 1);
        Due.is("last", y.version(2, 0), 3);
    }

    private static void promise7() {
        KeeperHouse x = new KeeperHouse();
        Due.is("none", x.lose(0), 0);
        x.late(0, 2);
        x.late(1, 2);
        write(x, 0, 0, "1");
        write(x, 0, 0, "2");
        write(x, 1, 1, "3");
        x.move(0, 0, 1);
        Due.is("events, not files", x.lose(0), 3);
        Due.is("gone", x.lose(0), 0);
        x.pass(2);
        Due.is("not noted", x.noted(0), 0);
        Due.is("another machine's came", x.noted(1), 1);
        Due.is("what came is not lost", x.lose(1), 0);
        Due.is("it stays noted", x.noted(1), 1);
        for (int machine : NO_MACHINES) {
            Due.noIndex("lose at " + machine, () -> x.lose(machine));
        }
    }

    private static void promise8() {
        KeeperHouse x = new KeeperHouse();
        x.late(0, 5);
        write(x, 0, 9, "1");
        write(x, 0, 2, "2");
        x.late(0, 0);
        write(x, 0, 5, "3");
        Due.is("that are not noted", x.scan(0), 2);
        Due.is("none then", x.scan(0), 0);
        Due.is("all noted", x.noted(0), 3);
        x.upload(0, 100);
        Due.is("noted first", x.version(0, 0), 5);
        Due.is("by rising numbers", x.version(1, 0), 2);
        Due.is("last", x.version(2, 0), 9);
        x.pass(5);
        Due.is("late events note what is not changed", x.noted(0), 2);
        x.upload(0, 0);
        x.lose(0);
        x.late(0, 5);
        x.erase(0, 5);
        write(x, 0, 2, "2");
        Due.is("an erased one is changed, one written alike not", x.scan(0), 1);
        for (int machine : NO_MACHINES) {
            Due.noIndex("scan at " + machine, () -> x.scan(machine));
        }
    }

    private static void promise9() {
        KeeperHouse x = new KeeperHouse();
        Due.is("100 at first", x.room(0, 200), 100);
        Due.is("200", x.room(0, 0), 200);
        Due.is("0", x.room(0, 5), 0);
        Due.is("of the machine", x.room(1, 5), 100);
        Due.noArgument("201", () -> x.room(0, 201));
        Due.noArgument("-1", () -> x.room(0, -1));
        Due.noIndex("the index is looked at first", () -> x.room(3, 201));
        for (int machine : NO_MACHINES) {
            Due.noIndex("room of " + machine, () -> x.room(machine, 1));
        }
        put(x, 0, 0, "123456");
        x.room(0, 1);
        Due.is("nothing is put away", x.stateOf(0, 0), THERE);
        Due.is("taken", x.taken(0), 6);
    }

    private static void promise10() {
        KeeperHouse x = new KeeperHouse();
        Due.is("no", x.pin(0, 0, true), false);
        Due.is("yes", x.pin(0, 0, true), true);
        Due.is("of the machine and the file", x.pin(1, 0, true) || x.pin(0, 1, true), false);
        Due.is("no more", x.pin(0, 0, false), true);
        Due.is("no again", x.pin(0, 0, false), false);
        noMachineOrFile("pin", x, (y, machine, file) -> y.pin(machine, file, true) ? 1 : 0);
    }

    private static void promise11() {
        KeeperHouse x = new KeeperHouse();
        for (int machine : NO_MACHINES) {
            Due.noIndex("upload at " + machine, () -> x.upload(machine, 101));
        }
        Due.noArgument("-1", () -> x.upload(0, -1));
        Due.noArgument("101", () -> x.upload(0, 101));
        Due.is("nothing noted", x.upload(0, 100), 0);
        write(x, 0, 0, "1203123450");
        Due.is("none", x.upload(0, 0), 0);
        Due.is("none came", x.count(0), 0);
        Due.is("some", x.upload(0, 2), 0);
        Due.is("two came", x.count(7), 2);
        Due.is("the last", x.upload(0, 1), 1);
        Due.is("120, 3123, 450", x.count(0), 3);
    }

    private static void promise11Cut() {
        KeeperHouse x = new KeeperHouse();
        put(x, 0, 0, "1230");
        Due.is("one piece", x.count(0), 1);
        put(x, 0, 1, "12340");
        Due.is("1234 and 0", x.count(0), 3);
        put(x, 0, 2, "01230000");
        Due.is("0 1230 0 0 0: nothing new", x.count(0), 3);
        put(x, 0, 3, "1");
        put(x, 0, 4, "01");
        Due.is("0 and 1", x.count(0), 4);
        Due.is("uploaded", x.count(7), 4);
        put(x, 0, 5, "5555555");
        Due.is("5555 and 555", x.count(0), 6);
        Due.is("the sixth in a new pack", x.count(1), 2);
        Due.is("five in the first", x.damage(0), 5);
        Due.is("one in the second", x.damage(1), 1);
        put(x, 1, 6, "55551230");
        Due.is("damaged pieces are had all the same", x.count(7), 6);
    }

    private static void promise11Order() {
        KeeperHouse x = new KeeperHouse();
        write(x, 0, 3, "111122223333");
        write(x, 0, 1, "4");
        write(x, 0, 2, "1111");
        Due.is("the first one waits", x.upload(0, 2), 0);
        Due.is("and so do those behind it", x.noted(0), 3);
        Due.is("all", x.upload(0, 2), 3);
        Due.is("without pieces left it went on", x.version(2, 0), 2);
        x.erase(0, 3);
        write(x, 0, 1, "5");
        x.move(0, 2, 0);
        Due.is("erased, but not what needs a piece", x.upload(0, 0), 1);
        Due.is("a move behind it waits", x.noted(0), 2);
        write(x, 0, 1, "4");
        Due.is("what is not changed any more is noted no more", x.upload(0, 0), 1);
        Due.is("the move", x.version(4, 3), 0);
        Due.is("none noted", x.noted(0), 0);
        write(x, 1, 8, "66660");
        x.upload(1, 1);
        write(x, 1, 8, "77770");
        Due.is("what is there by then counts", x.upload(1, 2), 1);
        Due.is("the piece of before stays", x.count(0), 7);
    }

    private static void promise11Limit() {
        KeeperHouse x = new KeeperHouse();
        put(x, 0, 0, "1");
        x.pass(1);
        put(x, 0, 0, "2");
        for (int made = 2; made < 101; made++) {
            x.pass(1);
            Due.is("made", x.restore(0, x.time() - 2), made);
        }
        Due.is("101 versions", x.versions(), 101);
        Due.noState("upload", () -> x.upload(0, 0));
        Due.noState("restore", () -> x.restore(0, 0));
        Due.noState("restoreFolder", () -> x.restoreFolder(0, 0));
        Due.noArgument("the range is looked at first", () -> x.upload(0, 101));
        Due.noArgument("in restore", () -> x.restore(0, x.time() + 1));
        Due.noArgument("in restoreFolder", () -> x.restoreFolder(0, x.time() + 1));
        Due.noIndex("the index is looked at first", () -> x.upload(3, 0));
        passAll(x, 300);
        Due.is("thinned", x.thin(), 100);
        Due.noState("versions that were made count", () -> x.upload(0, 0));
    }

    private static void promise11Many() {
        KeeperHouse x = new KeeperHouse();
        put(x, 0, 0, "1");
        x.pass(1);
        put(x, 0, 0, "2");
        for (int made = 2; made < 100; made++) {
            x.pass(1);
            x.restore(0, x.time() - 2);
        }
        for (int file = 0; file < 16; file++) {
            write(x, 1, file, "3");
        }
        x.pass(1);
        Due.is("100 versions are no more than 100", x.restore(0, x.time() - 2), 100);
        Due.noState("101 are", () -> x.upload(1, 100));
        KeeperHouse y = new KeeperHouse();
        put(y, 0, 0, "1");
        y.pass(1);
        put(y, 0, 0, "2");
        for (int made = 2; made < 100; made++) {
            y.pass(1);
            y.restore(0, y.time() - 2);
        }
        for (int file = 0; file < 16; file++) {
            write(y, 1, file, "3");
        }
        Due.is("15 new ones, one refused, as no file is free", y.upload(1, 100), 15);
        Due.is("refused", y.count(6), 1);
        Due.is("115", y.versions(), 115);
    }

    private static void conflictKeepsBoth() {
        KeeperHouse x = new KeeperHouse();
        put(x, 0, 5, "11");
        x.pull(1);
        put(x, 0, 5, "22");
        x.pass(3);
        write(x, 2, 0, "9");
        write(x, 1, 5, "33");
        x.move(1, 5, 3);
        Due.is("a version of another file", x.upload(1, 9), 1);
        Due.is("conflict", x.count(5), 1);
        Due.is("the lowest one that no machine has", x.version(2, 0), 1);
        Due.is("of now", x.version(2, 1), 3);
        Due.is("by the machine", x.version(2, 2), 1);
        Due.is("in the machine's folder", x.version(2, 3), 3);
        Due.is("with its content", x.version(2, 4), 2);
        Due.is("there", x.stateOf(1, 1), THERE);
        content(x, 1, 1, "33");
        Due.is("seen", x.seen(1, 1), 2);
        Due.is("not changed", x.isChanged(1, 1), false);
        Due.is("as the latest, known only", x.stateOf(1, 5), KNOWN);
        Due.is("in its folder", x.folderOf(1, 5), 1);
        Due.is("seen", x.seen(1, 5), 1);
        Due.is("not changed", x.isChanged(1, 5), false);
        Due.is("noted no more", x.noted(1), 0);
        x.open(1, 5);
        content(x, 1, 5, "22");
        KeeperHouse y = new KeeperHouse();
        put(y, 0, 0, "11");
        y.pull(1);
        y.open(1, 0);
        y.move(0, 0, 2);
        y.upload(0, 0);
        y.move(1, 0, 3);
        Due.is("both folders are kept", y.upload(1, 0), 1);
        Due.is("known only, though the content was there", y.stateOf(1, 0), KNOWN);
        Due.is("in the house's folder", y.folderOf(1, 0), 2);
        Due.is("the other one", y.folderOf(1, 1), 3);
    }

    private static void conflictUnseen() {
        KeeperHouse x = new KeeperHouse();
        put(x, 0, 4, "11");
        write(x, 1, 4, "22");
        Due.is("there is one, though it has seen none", x.upload(1, 9), 1);
        Due.is("conflict", x.count(5), 1);
        Due.is("kept as file 0", x.version(1, 0), 0);
        write(x, 2, 4, "11");
        Due.is("the same is seen", x.upload(2, 9), 0);
        Due.is("no conflict", x.count(5), 1);
        Due.is("seen", x.seen(2, 4), 0);
        Due.is("there", x.stateOf(2, 4), THERE);
        x.move(2, 4, 1);
        x.upload(2, 0);
        x.pull(0);
        Due.is("the same content in another folder", x.folderOf(0, 4), 1);
        Due.is("it is there still", x.stateOf(0, 4), THERE);
        write(x, 1, 8, "5");
        x.lock(0, 8, 5);
        Due.is("a lock on what the house has not", x.upload(1, 9), 1);
        Due.is("kept as another file", x.version(3, 0), 1);
        Due.is("not there at the machine then", x.stateOf(1, 8), ABSENT);
        Due.is("seen none", x.seen(1, 8), NONE);
        Due.is("not changed", x.isChanged(1, 8), false);
    }

    private static void conflictErased() {
        KeeperHouse x = new KeeperHouse();
        put(x, 0, 5, "11");
        x.pull(1);
        put(x, 0, 5, "22");
        x.erase(1, 5);
        Due.is("no version", x.upload(1, 9), 0);
        Due.is("conflict", x.count(5), 1);
        Due.is("forgotten", x.stateOf(1, 5), KNOWN);
        Due.is("as the latest", x.seen(1, 5), 1);
        Due.is("not changed", x.isChanged(1, 5), false);
        x.lock(2, 5, 9);
        x.erase(1, 5);
        Due.is("nor with another one's lock", x.upload(1, 9), 0);
        Due.is("conflict", x.count(5), 2);
        Due.is("forgotten", x.stateOf(1, 5), KNOWN);
        x.breakLock(5);
        x.share(1, 1, READ, 9);
        x.erase(1, 5);
        Due.is("nor without the right", x.upload(1, 9), 0);
        Due.is("conflict", x.count(5), 3);
        x.erase(0, 5);
        x.erase(1, 5);
        Due.is("a deletion", x.upload(0, 0), 1);
        Due.is("the same deletion is seen", x.upload(1, 0), 0);
        Due.is("no conflict", x.count(5), 3);
        Due.is("seen", x.seen(1, 5), 2);
        Due.is("not changed", x.isChanged(1, 5), false);
    }

    private static void conflictDeletion() {
        KeeperHouse x = new KeeperHouse();
        put(x, 0, 5, "11");
        x.pull(1);
        x.pull(2);
        x.erase(0, 5);
        x.upload(0, 0);
        write(x, 1, 5, "22");
        Due.is("acknowledged all the same", x.upload(1, 9), 1);
        Due.is("it", x.version(2, 0), 5);
        Due.is("a conflict", x.count(5), 1);
        Due.is("seen", x.seen(1, 5), 2);
        x.erase(1, 5);
        x.upload(1, 0);
        write(x, 2, 5, "33");
        x.lock(0, 5, 9);
        Due.is("not if it may not", x.upload(2, 9), 1);
        Due.is("another file", x.version(4, 0), 0);
        Due.is("not there", x.stateOf(2, 5), ABSENT);
        Due.is("the deletion is seen", x.seen(2, 5), 3);
        x.breakLock(5);
        write(x, 2, 5, "44");
        Due.is("a deletion that was seen", x.upload(2, 9), 1);
        Due.is("is no conflict", x.count(5), 2);
        Due.is("acknowledged", x.seen(2, 5), 5);
        KeeperHouse y = new KeeperHouse();
        put(y, 0, 5, "11");
        y.pull(1);
        y.erase(0, 5);
        y.upload(0, 0);
        write(y, 1, 5, "22");
        y.share(1, 1, READ, 9);
        y.move(1, 5, 2);
        Due.is("the folder of the machine counts", y.upload(1, 9), 1);
        Due.is("acknowledged", y.version(2, 0), 5);
    }

    private static void conflictRights() {
        KeeperHouse x = new KeeperHouse();
        put(x, 0, 5, "11");
        x.pull(1);
        x.open(1, 5);
        x.share(2, 1, READ, 9);
        x.move(1, 5, 2);
        Due.is("not to the new one", x.upload(1, 0), 0);
        Due.is("refused", x.count(6), 1);
        Due.is("conflict", x.count(5), 1);
        Due.is("stays changed", x.isChanged(1, 5), true);
        Due.is("stays there", x.stateOf(1, 5), THERE);
        Due.is("noted no more", x.noted(1), 0);
        x.move(1, 5, 3);
        x.share(1, 1, READ, 9);
        Due.is("not from the old one", x.upload(1, 0), 1);
        Due.is("kept as another", x.version(1, 0), 0);
        Due.is("conflict", x.count(5), 2);
        Due.is("as the latest", x.folderOf(1, 5), 1);
        x.share(1, 1, WRITE, 1);
        x.open(1, 5);
        x.move(1, 5, 3);
        x.pass(1);
        Due.is("the share has ended", x.upload(1, 0), 1);
        Due.is("conflict", x.count(5), 3);
        x.lock(2, 8, 2);
        write(x, 2, 8, "7");
        Due.is("its own lock does no harm", x.upload(2, 9), 1);
        write(x, 2, 8, "8");
        x.breakLock(8);
        x.lock(0, 8, 2);
        x.pass(2);
        Due.is("nor one that has ended", x.upload(2, 9), 1);
        Due.is("no conflict", x.count(5), 3);
    }

    private static void conflictNoFileFree() {
        KeeperHouse x = new KeeperHouse();
        for (int file = 0; file < 14; file++) {
            write(x, 0, file, "1");
        }
        x.upload(0, 100);
        x.lock(0, 0, 48);
        write(x, 1, 0, "2");
        write(x, 1, 15, "3");
        x.erase(1, 15);
        write(x, 2, 14, "4");
        Due.is("15 is free again", x.upload(1, 100), 1);
        Due.is("it", x.version(14, 0), 15);
        write(x, 1, 0, "2");
        Due.is("14 is another machine's", x.upload(1, 100), 0);
        Due.is("refused", x.count(6), 1);
        x.erase(2, 14);
        x.scan(1);
        Due.is("now it is free", x.upload(1, 100), 1);
        Due.is("it", x.version(15, 0), 14);
        KeeperHouse y = new KeeperHouse();
        write(y, 0, 0, "1");
        y.lock(0, 8, 9);
        write(y, 1, 8, "1");
        y.upload(1, 9);
        Due.is("0 is the first machine's", y.version(0, 0), 1);
        x.erase(1, 14);
        x.upload(1, 0);
        write(x, 1, 0, "5");
        Due.is("one that has a version is not free", x.upload(1, 100), 0);
        Due.is("refused", x.count(6), 2);
    }

    private static void promise12() {
        KeeperHouse x = new KeeperHouse();
        for (int machine : NO_MACHINES) {
            Due.noIndex("pull at " + machine, () -> x.pull(machine));
        }
        Due.is("nothing", x.pull(0), 0);
        put(x, 0, 1, "11");
        put(x, 0, 2, "22");
        Due.is("its own", x.pull(0), 0);
        x.share(2, 1, NO_RIGHT, 5);
        Due.is("what it may read", x.pull(1), 1);
        Due.is("known", x.stateOf(1, 1), KNOWN);
        Due.is("seen", x.seen(1, 1), 0);
        Due.is("not", x.stateOf(1, 2), ABSENT);
        Due.is("not seen", x.seen(1, 2), NONE);
        x.share(2, 1, READ, 5);
        Due.is("now it may", x.pull(1), 1);
        x.open(1, 1);
        x.move(0, 1, 3);
        x.upload(0, 0);
        Due.is("another folder", x.pull(1), 1);
        Due.is("its content is there", x.stateOf(1, 1), THERE);
        Due.is("folder", x.folderOf(1, 1), 3);
        put(x, 0, 1, "33");
        Due.is("another content", x.pull(1), 1);
        Due.is("is known only", x.stateOf(1, 1), KNOWN);
        x.open(1, 1);
        content(x, 1, 1, "33");
        x.pass(1);
        put(x, 0, 1, "44");
        put(x, 0, 1, "33");
        Due.is("seen, but not another", x.pull(1), 0);
        Due.is("there still", x.stateOf(1, 1), THERE);
        Due.is("seen", x.seen(1, 1), 5);
        put(x, 0, 1, "55");
        write(x, 1, 1, "66");
        Due.is("changed ones are not pulled", x.pull(1), 0);
        Due.is("not seen", x.seen(1, 1), 5);
        content(x, 1, 1, "66");
    }

    private static void promise12Deletion() {
        KeeperHouse x = new KeeperHouse();
        put(x, 0, 1, "11");
        x.pull(1);
        x.erase(0, 1);
        x.upload(0, 0);
        x.share(1, 1, NO_RIGHT, 5);
        Due.is("the folder in which the machine has it", x.pull(1), 0);
        Due.is("stays", x.stateOf(1, 1), KNOWN);
        x.share(1, 1, READ, 5);
        Due.is("a deletion", x.pull(1), 1);
        Due.is("not there", x.stateOf(1, 1), ABSENT);
        Due.is("seen", x.seen(1, 1), 1);
        for (int folder = 0; folder < 4; folder++) {
            x.share(folder, 2, NO_RIGHT, 5);
        }
        Due.is("not another one", x.pull(2), 0);
        Due.is("what has no folder asks for no right", x.seen(2, 1), 1);
        KeeperHouse y = new KeeperHouse();
        put(y, 0, 1, "11");
        y.pull(1);
        y.erase(1, 1);
        Due.is("what it erased is changed", y.pull(1), 0);
        Due.is("stays erased", y.stateOf(1, 1), ABSENT);
        KeeperHouse z = new KeeperHouse();
        put(z, 0, 1, "11");
        z.pull(1);
        z.open(1, 1);
        z.share(2, 1, NO_RIGHT, 5);
        z.move(0, 1, 2);
        z.upload(0, 0);
        Due.is("the latest one's folder counts", z.pull(1), 0);
        z.share(2, 1, READ, 5);
        z.share(1, 1, NO_RIGHT, 5);
        Due.is("not that of before", z.pull(1), 1);
    }

    private static void promise13() {
        KeeperHouse x = new KeeperHouse();
        Due.noState("absent", () -> x.open(0, 0));
        put(x, 0, 0, "123450");
        put(x, 0, 1, "77");
        noMachineOrFile("open", x, (y, machine, file) -> {
            y.draft(1);
            if (machine == 2) {
                y.write(machine, file);
            }
            return y.open(machine, file);
        });
        x.pull(1);
        x.share(0, 1, NO_RIGHT, 2);
        Due.noState("no right to the folder", () -> x.open(1, 0));
        x.pass(2);
        Due.noState("a share that has ended gives none", () -> x.open(1, 0));
        x.share(0, 1, READ, 9);
        Due.is("a right to read is enough", x.open(1, 0), 6);
        content(x, 1, 0, "123450");
        x.share(0, 1, NO_RIGHT, 9);
        Due.is("what is there needs none", x.open(1, 0), 6);
        x.damage(0);
        Due.is("nor whole pieces", x.open(1, 0), 6);
        Due.noState("damaged", () -> x.open(1, 1));
        Due.is("stays known", x.stateOf(1, 1), KNOWN);
        x.room(1, 0);
        Due.is("nor room", x.open(1, 0), 6);
    }

    private static void promise13Missing() {
        KeeperHouse x = new KeeperHouse();
        put(x, 0, 0, "1111");
        put(x, 0, 1, "11112222");
        x.pull(1);
        x.pull(2);
        put(x, 0, 0, "3");
        put(x, 0, 1, "3");
        passAll(x, 24);
        Due.is("thinned", x.thin(), 2);
        Due.is("their pieces too", x.count(0), 1);
        Due.noState("missing", () -> x.open(1, 0));
        put(x, 0, 2, "1111");
        Due.is("a dropped version whose pieces are there again", x.open(1, 0), 4);
        content(x, 1, 0, "1111");
        Due.is("seen also if it was dropped", x.seen(1, 0), 0);
        Due.is("not changed", x.isChanged(1, 0), false);
        Due.noState("one of them is missing", () -> x.open(1, 1));
    }

    private static void promise13Room() {
        KeeperHouse x = new KeeperHouse();
        for (int file = 0; file < 5; file++) {
            put(x, 0, file, "1111");
        }
        x.pull(1);
        x.room(1, 12);
        x.open(1, 2);
        x.open(1, 0);
        x.open(1, 1);
        x.open(1, 2);
        x.open(1, 3);
        Due.is("0 was opened longest ago", x.stateOf(1, 0), KNOWN);
        Due.is("1 stays", x.stateOf(1, 1), THERE);
        Due.is("taken", x.taken(1), 12);
        x.pin(1, 1, true);
        x.open(1, 4);
        Due.is("a pinned one stays", x.stateOf(1, 1), THERE);
        Due.is("the next is put away", x.stateOf(1, 2), KNOWN);
        x.move(1, 3, 0);
        x.open(1, 0);
        Due.is("a changed one stays", x.stateOf(1, 3), THERE);
        Due.is("4 goes", x.stateOf(1, 4), KNOWN);
        x.pin(1, 0, true);
        Due.noState("no room", () -> x.open(1, 4));
        Due.is("nothing was put away", x.taken(1), 12);
        x.pin(1, 0, false);
        x.room(1, 4);
        Due.noState("not enough can be put away", () -> x.open(1, 4));
        Due.is("nothing was put away then", x.stateOf(1, 0), THERE);
    }

    private static void promise13NeverOpened() {
        KeeperHouse x = new KeeperHouse();
        for (int file = 0; file < 5; file++) {
            put(x, 0, file, "1111");
        }
        put(x, 1, 6, "111111111111");
        x.pull(0);
        x.open(0, 0);
        x.room(0, 24);
        x.open(0, 6);
        Due.is("of those never opened the lowest ahead of all", x.stateOf(0, 1), KNOWN);
        Due.is("the next", x.stateOf(0, 2), KNOWN);
        Due.is("no more than needed", x.stateOf(0, 3), THERE);
        Due.is("the opened one", x.stateOf(0, 0), THERE);
        Due.is("taken", x.taken(0), 24);
        x.room(0, 5);
        x.open(0, 1);
        Due.is("all are put away", x.taken(0), 4);
        Due.is("the opened ones too", x.stateOf(0, 6), KNOWN);
        write(x, 2, 0, "222222222222");
        x.pull(2);
        x.room(2, 15);
        Due.noState("what it wrote takes room", () -> x.open(2, 1));
        x.room(2, 16);
        Due.is("it fits just so", x.open(2, 1), 4);
    }

    private static void promise14() {
        KeeperHouse x = new KeeperHouse();
        noMachineOrFile("lock", x, (y, machine, file) -> y.lock(machine, file, 1));
        Due.noIndex("the index is looked at first", () -> x.lock(0, 16, 0));
        Due.noArgument("0 hours", () -> x.lock(0, 0, 0));
        Due.noArgument("49 hours", () -> x.lock(0, 0, 49));
        Due.is("48", x.lock(0, 0, 48), 48);
        Due.is("shorter", x.lock(0, 0, 1), 1);
        Due.is("longer", x.lock(0, 0, 3), 3);
        Due.noState("another one", () -> x.lock(1, 0, 3));
        Due.noArgument("the hours are looked at first", () -> x.lock(1, 0, 49));
        x.pass(2);
        Due.noState("still", () -> x.lock(1, 0, 3));
        Due.is("still", x.lockOf(0), 0);
        x.pass(1);
        Due.is("over", x.lockOf(0), NONE);
        Due.is("by the other one", x.lock(1, 0, 3), 6);
        Due.is("whose", x.lockOf(0), 1);
    }

    private static void promise15() {
        KeeperHouse x = new KeeperHouse();
        for (int file : NO_FILES) {
            Due.noIndex("break " + file, () -> x.breakLock(file));
        }
        Due.noState("nobody", () -> x.breakLock(0));
        x.lock(2, 0, 5);
        x.lock(1, 15, 2);
        Due.is("whose", x.breakLock(0), 2);
        Due.noState("broken", () -> x.breakLock(0));
        Due.is("nobody", x.lockOf(0), NONE);
        Due.is("free for others", x.lock(1, 0, 1), 1);
        x.pass(2);
        Due.noState("it ended by itself", () -> x.breakLock(15));
    }

    private static void promise16() {
        KeeperHouse x = new KeeperHouse();
        for (int folder : NO_FOLDERS) {
            Due.isThrown("share " + folder, IndexOutOfBoundsException.class, () -> shared(x, folder, 0, 3, 0));
        }
        for (int machine : NO_MACHINES) {
            Due.isThrown("share with " + machine, IndexOutOfBoundsException.class, () -> shared(x, 0, machine, 0, 1));
        }
        Due.noArgument("right -1", () -> shared(x, 0, 0, -1, 1));
        Due.noArgument("right 3", () -> shared(x, 0, 0, 3, 1));
        Due.noArgument("0 hours", () -> shared(x, 0, 0, 0, 0));
        Due.noArgument("2001 hours", () -> shared(x, 0, 0, 0, 2001));
        Due.is("as before", x.right(0, 0), WRITE);
        x.share(3, 2, READ, 2000);
        Due.is("to read", x.right(3, 2), READ);
        x.share(3, 2, WRITE, 2);
        Due.is("in place of what was before", x.right(3, 2), WRITE);
        x.share(3, 1, NO_RIGHT, 1);
        x.pass(1);
        Due.is("no right afterwards either", x.right(3, 1), NO_RIGHT);
        Due.is("up to its end", x.right(3, 2), WRITE);
        x.pass(1);
        Due.is("that excluded", x.right(3, 2), NO_RIGHT);
        Due.is("others as they were", x.right(3, 0) + x.right(2, 2), WRITE + WRITE);
    }

    private static long shared(KeeperHouse x, int folder, int machine, int right, int hours) {
        x.share(folder, machine, right, hours);
        return 0;
    }

    private static void promise17and18() {
        KeeperHouse x = new KeeperHouse();
        for (int file : NO_FILES) {
            Due.noIndex("hold " + file, () -> x.hold(file, -1, 0));
        }
        Due.noArgument("from -1", () -> x.hold(0, -1, 5));
        Due.noArgument("from 2001", () -> x.hold(0, 2001, 2001));
        Due.noArgument("to below from", () -> x.hold(0, 5, 4));
        Due.noArgument("to 2001", () -> x.hold(0, 5, 2001));
        Due.is("none to release", x.release(), 0);
        Due.is("of an hour", x.hold(0, 2000, 2000), 1);
        for (int holds = 2; holds <= 10; holds++) {
            Due.is("holds", x.hold(15, 0, 2000), holds);
        }
        Due.noState("an eleventh", () -> x.hold(0, 0, 0));
        Due.noArgument("the range is looked at first", () -> x.hold(0, 5, 4));
        Due.is("released", x.release(), 10);
        Due.is("none", x.release(), 0);
        Due.is("anew", x.hold(0, 0, 0), 1);
    }

    private static void promise19Spans() {
        KeeperHouse x = new KeeperHouse();
        Due.is("nothing", x.thin(), 0);
        int[] hours = {0, 0, 10, 23, 24, 30, 47, 48};
        for (int hour : hours) {
            passAll(x, hour - x.time());
            put(x, 0, 0, hour == 0 && x.versions() == 0 ? "11" : "1" + (x.versions() + 1));
        }
        put(x, 0, 1, "99");
        Due.is("of hour 0 and 10, and 24; of 23 and 24 not", x.thin(), 4);
        int[] kept = {0, 0, 0, 1, 0, 1, 1, 1, 1};
        for (int n = 0; n < kept.length; n++) {
            Due.is("kept " + n, x.version(n, 5), kept[n]);
        }
        Due.is("not twice", x.thin(), 0);
        x.pass(6);
        Due.is("30 is 24 hours old, 47 the last of its span", x.thin(), 1);
        Due.is("it", x.version(5, 5), 0);
        passAll(x, 239 + 23 - x.time());
        Due.is("239 hours old", x.thin(), 0);
        x.pass(1);
        Due.is("240 hours old", x.thin(), 1);
        Due.is("it", x.version(3, 5), 0);
        passAll(x, 300);
        Due.is("but the latest ones of the files", x.thin(), 1);
        Due.is("of file 0", x.version(7, 5), 1);
        Due.is("of file 1", x.version(8, 5), 1);
    }

    private static void promise19Holds() {
        KeeperHouse x = new KeeperHouse();
        put(x, 0, 0, "1");
        put(x, 0, 1, "1");
        x.pass(5);
        put(x, 0, 0, "2");
        x.pass(5);
        put(x, 0, 0, "3");
        x.pass(10);
        put(x, 0, 0, "4");
        x.hold(0, 5, 10);
        passAll(x, 80);
        Due.is("those of the hold stay, both hours included", x.thin(), 1);
        Due.is("5", x.version(2, 5), 1);
        Due.is("10", x.version(3, 5), 1);
        Due.is("as of 7", x.asOf(0, 7), 2);
        put(x, 0, 0, "5");
        passAll(x, 200);
        put(x, 0, 1, "6");
        x.hold(1, 0, 0);
        Due.is("old ones not held go, 240 hours old", x.thin(), 1);
        Due.is("20", x.version(4, 5), 0);
        Due.is("released", x.release(), 2);
        x.hold(1, 0, 2000);
        Due.is("a hold of another file holds none of this", x.thin(), 2);
        Due.is("held", x.version(1, 5), 1);
        x.release();
        Due.is("no more", x.thin(), 1);
        Due.is("it", x.version(1, 5), 0);
        KeeperHouse y = new KeeperHouse();
        put(y, 0, 0, "1");
        y.pass(23);
        put(y, 0, 0, "2");
        y.hold(0, 23, 23);
        y.pass(1);
        Due.is("the last of the span is young, and held", y.thin(), 1);
        Due.is("the first goes", y.version(0, 5), 0);
    }

    private static void promise19Pieces() {
        KeeperHouse x = new KeeperHouse();
        put(x, 0, 0, "111122223333");
        put(x, 0, 0, "1111");
        put(x, 1, 4, "3333");
        write(x, 1, 5, "22224444");
        x.follow(9);
        x.damage(0);
        Due.is("three", x.count(2), 3);
        x.pass(24);
        Due.is("one", x.thin(), 1);
        Due.is("those of a noted file stay", x.count(0), 3);
        Due.is("damaged all", x.count(2), 3);
        Due.is("in the second house", x.count(3), 3);
        x.upload(1, 0);
        x.erase(1, 5);
        x.thin();
        Due.is("an erased one has no content", x.count(0), 2);
        Due.is("damaged", x.count(2), 2);
        Due.is("dropped in the second house, too", x.count(3), 2);
        Due.is("entries", x.count(4), 0);
        write(x, 1, 5, "2222");
        Due.is("uploaded anew, not damaged", x.upload(1, 1), 1);
        Due.is("not", x.count(2), 2);
        Due.is("uploaded", x.count(7), 4);
        Due.is("in the first pack, which has fewer", x.count(1), 1);
        Due.is("it", x.damage(0), 1);
    }

    private static void promise19Packs() {
        KeeperHouse x = new KeeperHouse();
        put(x, 0, 0, "102030405060");
        Due.is("six in two packs", x.count(1), 2);
        put(x, 0, 0, "10");
        x.pass(24);
        x.thin();
        Due.is("one stays", x.count(0), 1);
        put(x, 0, 1, "40506070");
        Due.is("all in the last one", x.count(1), 2);
        Due.is("four there", x.damage(1), 4);
        Due.is("one in the first, which is not filled up", x.damage(0), 1);
        Due.noIndex("no third", () -> x.damage(2));
        put(x, 0, 1, "7");
        x.erase(0, 0);
        x.upload(0, 0);
        passAll(x, 240);
        x.thin();
        Due.is("the first pack has nothing left", x.damage(0), 0);
        Due.is("7 is not 70", x.damage(1), 1);
        Due.is("they were begun", x.count(1), 2);
    }

    private static void promise19Noted() {
        KeeperHouse x = new KeeperHouse();
        write(x, 0, 0, "11112222");
        x.upload(0, 1);
        x.thin();
        Due.is("noted", x.count(0), 1);
        x.lose(0);
        x.share(0, 0, READ, 500);
        Due.is("refused", x.upload(0, 9), 0);
        Due.is("pieces came all the same", x.count(0), 2);
        x.thin();
        Due.is("not noted any more", x.count(0), 0);
        x.scan(0);
        x.upload(0, 1);
        Due.is("packs stay in use", x.count(1), 1);
        Due.is("one", x.count(0), 1);
        KeeperHouse y = new KeeperHouse();
        put(y, 0, 0, "11112222");
        y.pull(1);
        y.open(1, 0);
        write(y, 1, 0, "11112222");
        put(y, 0, 0, "33");
        passAll(y, 24);
        y.thin();
        Due.is("noted, though not changed", y.count(0), 3);
        put(y, 0, 2, "4");
        y.pull(1);
        y.thin();
        Due.is("known only has none", y.count(0), 2);
    }

    private static void promise19First() {
        KeeperHouse x = new KeeperHouse();
        put(x, 0, 0, "5");
        put(x, 0, 1, "1111");
        x.follow(2);
        x.pass(24);
        Due.is("the only ones of a span stay", x.thin(), 0);
        x.erase(0, 1);
        x.upload(0, 0);
        passAll(x, 216);
        Due.is("up to their age, and the latest one for good", x.thin(), 1);
        Due.is("that of file 1", x.version(1, 5), 0);
        put(x, 0, 2, "1111");
        Due.is("a piece that comes again", x.count(0), 2);
        Due.is("is not had in the second house", x.count(3), 1);
        x.follow(9);
        Due.is("until it comes with its version", x.count(3), 2);
    }

    private static void promise20() {
        KeeperHouse x = new KeeperHouse();
        for (int file : NO_FILES) {
            Due.noIndex("restore " + file, () -> x.restore(file, 9));
        }
        Due.noArgument("before time", () -> x.restore(0, -1));
        Due.noArgument("after now", () -> x.restore(0, 1));
        Due.is("none", x.restore(0, 0), NONE);
        x.pass(1);
        put(x, 0, 1, "11");
        x.pass(1);
        put(x, 0, 1, "22");
        x.pass(1);
        x.erase(0, 1);
        x.upload(0, 0);
        x.pass(1);
        Due.is("none as of then", x.restore(1, 0), NONE);
        Due.is("the same deletion", x.restore(1, 4), NONE);
        Due.is("a content", x.restore(1, 1), 3);
        Due.is("by nobody", x.version(3, 2), NONE);
        Due.is("of now", x.version(3, 1), 4);
        Due.is("in its folder", x.version(3, 3), 1);
        Due.is("of its length", x.version(3, 4), 2);
        Due.is("kept", x.version(3, 5), 1);
        Due.is("the same content", x.restore(1, 1), NONE);
        Due.is("a deletion", x.restore(1, 3), 4);
        Due.is("as one", x.version(4, 3), NONE);
        Due.is("not seen by machines", x.seen(0, 1), 2);
        x.restore(1, 2);
        x.pull(0);
        x.open(0, 1);
        content(x, 0, 1, "22");
        x.move(0, 1, 3);
        x.upload(0, 0);
        Due.is("of the hour the last one", x.restore(1, 4), NONE);
        Due.is("another folder is not the same", x.restore(1, 2), 7);
        x.lock(2, 1, 9);
        Due.is("locks do not hinder", x.restore(1, 1), 8);
    }

    private static void promise21() {
        KeeperHouse x = new KeeperHouse();
        for (int folder : NO_FOLDERS) {
            Due.noIndex("restoreFolder " + folder, () -> x.restoreFolder(folder, 9));
        }
        Due.noArgument("before time", () -> x.restoreFolder(0, -1));
        Due.noArgument("after now", () -> x.restoreFolder(0, 1));
        Due.is("none", x.restoreFolder(0, 0), 0);
        put(x, 0, 4, "11");
        put(x, 0, 5, "22");
        put(x, 0, 8, "33");
        put(x, 0, 12, "44");
        x.pass(1);
        x.move(0, 4, 2);
        x.move(0, 5, 0);
        write(x, 0, 8, "55");
        write(x, 0, 0, "66");
        x.upload(0, 100);
        Due.is("out, in, in it; not what is the same, nor what was not", x.restoreFolder(0, 0), 3);
        Due.is("by rising numbers", x.version(8, 0), 4);
        Due.is("back into it", x.version(8, 3), 0);
        Due.is("5", x.version(9, 0), 5);
        Due.is("back out of it", x.version(9, 3), 1);
        Due.is("8", x.version(10, 0), 8);
        Due.is("versions", x.versions(), 11);
        Due.is("once", x.restoreFolder(0, 0), 0);
        x.pass(1);
        x.pull(0);
        x.erase(0, 12);
        x.upload(0, 0);
        x.pass(1);
        put(x, 0, 12, "77");
        Due.is("a deletion as of then, there now", x.restoreFolder(0, 2), 1);
        Due.is("it", x.version(x.versions() - 1, 3), NONE);
        Due.is("another folder", x.restoreFolder(3, 0), 0);
        put(x, 0, 0, "88");
        Due.is("file 0 and 12, but not to what they were before", x.restoreFolder(0, 1), 2);
        Due.is("file 0", x.version(x.versions() - 2, 0), 0);
    }

    private static void promise22and23and24() {
        KeeperHouse x = new KeeperHouse();
        for (int pack : new int[] {-1, 0, 1, Integer.MIN_VALUE, Integer.MAX_VALUE}) {
            Due.noIndex("damage " + pack, () -> x.damage(pack));
        }
        Due.noArgument("follow 0", () -> x.follow(0));
        Due.noArgument("follow 121", () -> x.follow(121));
        Due.is("nothing to follow", x.follow(120), 0);
        Due.is("nothing to mend", x.scrub(), 0);
        put(x, 0, 0, "1111");
        put(x, 0, 1, "22221111");
        put(x, 0, 2, "3333");
        Due.is("entries", x.count(4), 3);
        Due.is("one", x.follow(1), 1);
        Due.is("it has its pieces", x.count(3), 1);
        Due.is("two are left", x.count(4), 2);
        Due.is("all are damaged", x.damage(0), 3);
        Due.is("once", x.damage(0), 0);
        Due.is("damaged", x.count(2), 3);
        Due.is("in no house", x.lost(), 2);
        Due.is("it follows", x.follow(1), 1);
        Due.is("damaged ones are not had, but had ones stay", x.count(3), 1);
        Due.is("mended", x.scrub(), 1);
        Due.is("damaged still", x.count(2), 2);
        Due.is("lost", x.lost(), 2);
        x.erase(0, 1);
        x.upload(0, 0);
        x.pull(1);
        Due.is("a deletion is an entry", x.follow(120), 2);
        Due.is("none left", x.count(4), 0);
        Due.is("damaged again by that", x.damage(0), 1);
        Due.is("a version, whose piece the second house has, is not lost", x.lost(), 2);
        passAll(x, 240);
        x.thin();
        put(x, 0, 3, "2222");
        Due.is("an old piece comes with a later version", x.follow(1), 1);
        Due.is("had", x.count(3), 2);
        x.damage(0);
        Due.is("mended", x.scrub(), 2);
    }

    private static void promise24Dropped() {
        KeeperHouse x = new KeeperHouse();
        put(x, 0, 0, "1");
        put(x, 0, 0, "2");
        put(x, 0, 0, "3");
        put(x, 0, 1, "4");
        x.follow(1);
        x.pass(24);
        x.thin();
        Due.is("a version that is dropped is no entry any more", x.count(4), 2);
        Due.is("nor are its pieces had", x.count(3), 0);
        Due.is("the first of those left", x.follow(1), 1);
        Due.is("its piece", x.count(3), 1);
        Due.is("one left", x.count(4), 1);
        put(x, 0, 1, "5");
        Due.is("new ones come behind", x.follow(9), 2);
    }

    private static void promise25and26() {
        KeeperHouse x = new KeeperHouse();
        for (int hours : new int[] {0, -1, 101, Integer.MIN_VALUE, Integer.MAX_VALUE}) {
            Due.noArgument("pass " + hours, () -> x.pass(hours));
        }
        Due.is("time", x.time(), 0);
        Due.is("1", x.pass(1), 1);
        Due.is("100", x.pass(100), 101);
        Due.is("time", x.time(), 101);
        passAll(x, 1799);
        Due.noArgument("the range is looked at first", () -> x.pass(101));
        Due.is("time", x.pass(1), 1901);
        Due.noState("above 2000", () -> x.pass(100));
        Due.is("as it was", x.time(), 1901);
        Due.is("2000", x.pass(99), 2000);
        Due.noState("2001", () -> x.pass(1));
        Due.is("rights for good last", x.right(0, 0), WRITE);
        x.share(1, 1, READ, 2000);
        Due.is("a share up to the hour 4000", x.right(1, 1), READ);
        Due.is("a lock up to the hour 2048", x.lock(0, 0, 48), 2048);
        put(x, 0, 0, "1");
        Due.is("of the last hour", x.asOf(0, 2000), 0);
    }

    private static void promise27to33() {
        KeeperHouse x = new KeeperHouse();
        noMachineOrFile("stateOf", x, (y, machine, file) -> y.stateOf(machine, file));
        noMachineOrFile("folderOf", x, (y, machine, file) -> y.folderOf(machine, file));
        noMachineOrFile("numberAt", x, (y, machine, file) -> y.numberAt(machine, file, 0));
        noMachineOrFile("isChanged", x, (y, machine, file) -> y.isChanged(machine, file) ? 1 : 0);
        noMachineOrFile("seen", x, (y, machine, file) -> y.seen(machine, file));
        for (int machine : NO_MACHINES) {
            Due.noIndex("noted", () -> x.noted(machine));
            Due.noIndex("taken", () -> x.taken(machine));
        }
        Due.noIndex("place -1", () -> x.numberAt(0, 0, -1));
        Due.noIndex("place least", () -> x.numberAt(0, 0, Integer.MIN_VALUE));
        put(x, 0, 7, "4050");
        x.pull(1);
        Due.is("there", x.stateOf(0, 7), THERE);
        Due.is("known", x.stateOf(1, 7), KNOWN);
        Due.is("absent", x.stateOf(2, 7), ABSENT);
        Due.is("folder", x.folderOf(0, 7), 3);
        Due.is("folder of a known one", x.folderOf(1, 7), 3);
        Due.is("folder of an absent one", x.folderOf(2, 7), NONE);
        content(x, 0, 7, "4050");
        Due.is("a known one has no number", x.numberAt(1, 7, 0), NONE);
        Due.is("far behind", x.numberAt(0, 7, Integer.MAX_VALUE), NONE);
        Due.is("12", x.numberAt(0, 7, 12), NONE);
        Due.is("taken", x.taken(0), 4);
        Due.is("a known one takes none", x.taken(1), 0);
        Due.is("seen", x.seen(1, 7), 0);
        Due.is("seen none", x.seen(2, 7), NONE);
        write(x, 0, 7, "4051");
        Due.is("another content", x.isChanged(0, 7), true);
        write(x, 0, 7, "40500");
        Due.is("longer", x.isChanged(0, 7), true);
        Due.is("noted", x.noted(0), 1);
        Due.is("not at others", x.noted(1), 0);
        write(x, 0, 7, "4050");
        Due.is("as before", x.isChanged(0, 7), false);
    }

    private static void promise34to36() {
        KeeperHouse x = new KeeperHouse();
        Due.noIndex("no version", () -> x.version(0, 0));
        put(x, 2, 7, "123");
        x.pass(4);
        x.erase(2, 7);
        x.upload(2, 0);
        Due.is("versions", x.versions(), 2);
        int[] first = {7, 0, 2, 3, 3, 1};
        int[] second = {7, 4, 2, NONE, 0, 1};
        for (int what = 0; what < 6; what++) {
            Due.is("first " + what, x.version(0, what), first[what]);
            Due.is("second " + what, x.version(1, what), second[what]);
        }
        Due.noIndex("-1", () -> x.version(-1, 0));
        Due.noIndex("2", () -> x.version(2, 6));
        Due.noArgument("what 6", () -> x.version(1, 6));
        Due.noArgument("what -1", () -> x.version(1, -1));
        for (int file : NO_FILES) {
            Due.noIndex("asOf " + file, () -> x.asOf(file, 9));
        }
        Due.noArgument("after now", () -> x.asOf(7, 5));
        Due.noArgument("before time", () -> x.asOf(7, -1));
        Due.is("as of 0", x.asOf(7, 0), 0);
        Due.is("as of 3", x.asOf(7, 3), 0);
        Due.is("as of 4 the deletion", x.asOf(7, 4), 1);
        Due.is("of another", x.asOf(6, 4), NONE);
        x.restore(7, 0);
        Due.is("of an hour the last one", x.asOf(7, 4), 2);
        x.pass(24);
        Due.is("all but the last", x.thin(), 2);
        Due.is("of those kept", x.asOf(7, 4), 2);
        Due.is("its answers stay", x.version(1, 1), 4);
        Due.is("not kept", x.version(1, 5), 0);
    }

    private static void promise37to39() {
        KeeperHouse x = new KeeperHouse();
        for (int file : NO_FILES) {
            Due.noIndex("lockOf " + file, () -> x.lockOf(file));
        }
        for (int folder : NO_FOLDERS) {
            Due.noIndex("right " + folder, () -> x.right(folder, 0));
        }
        for (int machine : NO_MACHINES) {
            Due.noIndex("right of " + machine, () -> x.right(0, machine));
        }
        for (int what : new int[] {-1, 8, Integer.MIN_VALUE, Integer.MAX_VALUE}) {
            Due.noArgument("count " + what, () -> x.count(what));
        }
        x.lock(2, 15, 1);
        Due.is("locked", x.lockOf(15), 2);
        Due.is("another file", x.lockOf(14), NONE);
        put(x, 0, 0, "111122223333");
        put(x, 0, 1, "444455556666");
        x.follow(1);
        x.damage(1);
        write(x, 1, 0, "1");
        x.upload(1, 1);
        x.share(0, 1, NO_RIGHT, 1);
        write(x, 1, 8, "1");
        x.upload(1, 0);
        int[] due = {7, 2, 1, 3, 2, 2, 1, 7};
        for (int what = 0; what < 8; what++) {
            Due.is("count " + what, x.count(what), due[what]);
        }
    }

    private static void promise40() {
        KeeperHouse x = new KeeperHouse();
        put(x, 0, 0, "1111");
        put(x, 0, 0, "11112222");
        put(x, 0, 1, "3333");
        Due.is("none", x.lost(), 0);
        x.damage(0);
        Due.is("all", x.lost(), 3);
        x.erase(0, 1);
        x.upload(0, 0);
        Due.is("a deletion is not lost", x.lost(), 3);
        x.pass(24);
        Due.is("dropped", x.thin(), 2);
        Due.is("those that are kept", x.lost(), 1);
        put(x, 0, 2, "5");
        x.follow(9);
        x.damage(0);
        Due.is("the second house has it whole", x.lost(), 1);
    }

    /** What is answered behind the 512th call is free; but what the document does not name is never thrown. */
    private static void behindTheLastCall() {
        KeeperHouse x = new KeeperHouse();
        for (int i = 0; i < 3000; i++) {
            for (int number : new int[] {i % 10, i / 10 % 10, i / 100 % 10, 1 + i / 1000}) {
                Calls.answer(x, Calls.DRAFT, number);
            }
            Calls.answer(x, Calls.LATE, i % 3, i % 2 * 50);
            Calls.answer(x, Calls.WRITE, i % 3, i % 16);
            Calls.answer(x, Calls.SCAN, i % 3);
            Calls.answer(x, Calls.UPLOAD, i % 3, 100);
            Calls.answer(x, Calls.MOVE, i % 3, i % 16, i % 4);
            Calls.answer(x, Calls.PULL, i % 2);
            Calls.answer(x, Calls.THIN);
        }
        Due.is("it came to an end", true, true);
    }

    public static void main(String[] args) {
        promise1();
        promise2();
        promise3();
        promise4();
        promise5();
        promise6();
        promise7();
        promise8();
        promise9();
        promise10();
        promise11();
        promise11Cut();
        promise11Order();
        promise11Limit();
        promise11Many();
        conflictKeepsBoth();
        conflictUnseen();
        conflictErased();
        conflictDeletion();
        conflictRights();
        conflictNoFileFree();
        promise12();
        promise12Deletion();
        promise13();
        promise13Missing();
        promise13Room();
        promise13NeverOpened();
        promise14();
        promise15();
        promise16();
        promise17and18();
        promise19Spans();
        promise19Holds();
        promise19Pieces();
        promise19Packs();
        promise19Noted();
        promise19First();
        promise20();
        promise21();
        promise22and23and24();
        promise24Dropped();
        promise25and26();
        promise27to33();
        promise34to36();
        promise37to39();
        promise40();
        behindTheLastCall();
        Due.end("PromisesTest");
    }
}
