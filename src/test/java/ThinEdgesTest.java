/** The edges of the document's words on holds, thinning and restoring. */
public final class ThinEdgesTest {
    private static final int NONE = KeeperHouse.NONE;
    private static final int KNOWN = KeeperHouse.KNOWN;
    private static final int READ = KeeperHouse.READ;

    /** Versions of file 0 of these hours, each of another content. */
    private static House madeAt(int... hours) {
        House x = new House();
        for (int i = 0; i < hours.length; i++) {
            x.passTo(hours[i]);
            Due.is("made", x.put(0, 0, String.valueOf(11 + i)), 1);
        }
        return x;
    }

    private static void thinned(String what, House x, int hour, String kept) {
        x.passTo(hour);
        String before = x.kept();
        int due = 0;
        for (int i = 0; i < kept.length(); i++) {
            due += before.charAt(i) != kept.charAt(i) ? 1 : 0;
        }
        Due.is(what + ": dropped", x.thin(), due);
        Due.is(what + ": kept", x.kept(), kept);
        Due.is(what + ": no more", x.thin(), 0);
    }

    private static void ages() {
        Due.sentence("To thin is to drop versions: none");
        Due.is("of a new house", new House().thin(), 0);
        Due.sentence("of those that are 24 hours old or more");
        thinned("23 hours", madeAt(0, 0), 23, "11");
        thinned("24 hours", madeAt(0, 0), 24, "01");
        thinned("25 hours", madeAt(0, 0), 25, "01");
        thinned("of three one is old", madeAt(0, 5, 6), 28, "011");
        thinned("the next hour another one", madeAt(0, 5, 6), 29, "001");
        Due.sentence("in each span of 24 hours from the hour 0 on");
        thinned("0 and 23", madeAt(0, 23), 60, "01");
        thinned("0 and 24", madeAt(0, 24), 60, "11");
        thinned("23 and 24", madeAt(23, 24), 60, "11");
        thinned("24 and 47", madeAt(24, 47), 90, "01");
        thinned("47 and 48", madeAt(47, 48), 90, "11");
        thinned("1, 25, 49", madeAt(1, 25, 49), 99, "111");
        thinned("each span its last one", madeAt(1, 2, 30, 31, 31, 70), 99, "010011");
        Due.sentence("only that one stays that is the last one of that file there, held or not, young or not");
        thinned("a young one", madeAt(0, 23), 24, "01");
        House x = madeAt(0, 3);
        x.hold(0, 3, 3);
        thinned("a held one", x, 40, "01");
        House y = madeAt(0, 3, 5);
        y.hold(0, 3, 3);
        thinned("a held one that is not the last stays besides", y, 40, "011");
        thinned("of one hour", madeAt(7, 7, 7), 31, "001");
        Due.sentence("for each file");
        House z = new House();
        z.put(0, 0, "11");
        z.put(0, 15, "22");
        z.put(0, 0, "33");
        z.pass(1);
        z.put(0, 7, "44");
        thinned("the last of each", z, 50, "0111");
        House w = new House();
        w.put(0, 0, "11");
        w.put(0, 1, "22");
        w.pass(30);
        w.put(0, 1, "33");
        w.put(0, 0, "44");
        thinned("the last of each in each span, also if it has later ones", w, 99, "1111");
    }

    private static void oldAges() {
        Due.sentence("of those that are 240 hours old or more, and not held, none but the latest version of the file");
        thinned("239 hours", madeAt(0, 24), 239, "11");
        thinned("240 hours", madeAt(0, 24), 240, "01");
        thinned("241 hours", madeAt(0, 24), 241, "01");
        thinned("the latest one stays", madeAt(0), 2000, "1");
        thinned("of two", madeAt(0, 100), 2000, "01");
        thinned("each at its hour", madeAt(0, 24, 48, 72), 240 + 24, "0011");
        House x = madeAt(0, 24, 48);
        x.hold(0, 0, 0);
        thinned("a held one stays, one behind it not", x, 300, "101");
        x.release();
        Due.is("held no more", x.thin(), 1);
        Due.is("it goes", x.kept(), "001");
        House y = madeAt(0);
        y.delete(0, 0);
        thinned("a deletion that is the latest stays", y, 300, "01");
        House z = madeAt(0);
        z.pass(30);
        z.delete(0, 0);
        z.pass(30);
        z.put(0, 0, "5");
        thinned("one that is not goes", z, 400, "001");
        House w = new House();
        for (int file = 0; file < 16; file++) {
            w.write(0, file, "1");
        }
        w.upload(0, 100);
        w.pass(1);
        for (int file = 0; file < 16; file++) {
            w.write(0, file, "2");
        }
        w.upload(0, 100);
        thinned("of all files", w, 300, "00000000000000001111111111111111");
    }

    private static void held(int from, int to, String kept) {
        House x = madeAt(3, 4, 5, 6, 7, 8);
        Due.is("a hold", x.hold(0, from, to), 1);
        thinned("held from " + from + " to " + to, x, 100, kept);
    }

    private static void holds() {
        Due.sentence("hold: from: 0 to 2000; to: from to 2000: versions of these hours, both included");
        held(5, 6, "001101");
        held(5, 5, "001001");
        held(0, 2, "000001");
        held(0, 3, "100001");
        held(0, 2000, "111111");
        held(7, 2000, "000011");
        held(9, 2000, "000001");
        held(2000, 2000, "000001");
        House x = madeAt(0, 0);
        x.hold(0, 0, 0);
        thinned("of the hour 0", x, 100, "11");
        Due.sentence("A hold is for a file");
        House y = madeAt(3, 4);
        y.hold(1, 0, 2000);
        thinned("not for another one", y, 100, "01");
        House z = new House();
        z.put(0, 15, "1");
        z.put(0, 15, "2");
        z.hold(15, 0, 0);
        thinned("for the last one", z, 100, "11");
        Due.sentence("Holds versions of a file: more than one hold");
        House w = madeAt(3, 4, 5, 6);
        w.hold(0, 3, 3);
        w.hold(0, 5, 5);
        thinned("both hold", w, 100, "1011");
        Due.sentence("Returns how many holds there are then; IllegalStateException if there are 10");
        House v = madeAt(3, 4, 5);
        for (int count = 1; count <= 9; count++) {
            Due.is("holds", v.hold(count, 0, 2000), count);
        }
        Due.is("the tenth", v.hold(0, 3, 4), 10);
        v.noState("an eleventh", Calls.HOLD, 0, 0, 0);
        v.noArgument("the range is looked at first", Calls.HOLD, 0, 1, 0);
        v.noIndex("and the file before it", Calls.HOLD, 16, 1, 0);
        thinned("the tenth holds", v, 100, "111");
        Due.sentence("Ends all holds; returns how many there were");
        Due.is("ten", v.release(), 10);
        Due.is("none", v.release(), 0);
        thinned("none holds", v, 101, "001");
        Due.is("from one on again", v.hold(0, 2000, 2000), 1);
        Due.is("one", v.release(), 1);
        v.noArgument("from -1", Calls.HOLD, 0, -1, 0);
        v.noArgument("from 2001", Calls.HOLD, 0, 2001, 2001);
        v.noArgument("to before from", Calls.HOLD, 0, 1, 0);
        v.noArgument("to 2001", Calls.HOLD, 0, 2000, 2001);
        v.noArgument("both far", Calls.HOLD, 0, Integer.MIN_VALUE, Integer.MAX_VALUE);
    }

    private static void pieces() {
        Due.sentence("Pieces that are in no content of a version that is kept are dropped then, too");
        House x = new House();
        x.put(0, 0, "102030");
        x.put(0, 0, "1040");
        x.put(0, 1, "3050");
        Due.is("five", x.count(0), 5);
        x.pass(23);
        x.thin();
        Due.is("while all versions are kept", x.count(0), 5);
        x.pass(1);
        Due.is("a version is dropped", x.thin(), 1);
        Due.is("and 20, but not 10 and 30", x.count(0), 4);
        x.write(1, 2, "102030");
        Due.is("10 and 30 are there", x.upload(1, 1), 1);
        Due.is("that were uploaded", x.count(7), 6);
        House w = new House();
        w.write(0, 8, "10");
        w.write(0, 3, "2030");
        w.write(1, 4, "20");
        w.write(1, 5, "5060");
        w.upload(1, 2);
        w.erase(1, 5);
        w.delete(1, 4);
        Due.is("20 and 50", w.count(0), 2);
        w.passAll(240);
        Due.is("a version goes, that was deleted", w.thin(), 1);
        Due.is("and 50, but not 20, that the second file needs which is noted", w.count(0), 1);
        w.write(2, 9, "20");
        Due.is("it is had", w.upload(2, 0), 1);
        Due.sentence("pieces that never were in a version");
        House y = new House();
        y.write(0, 0, "1020");
        y.upload(0, 1);
        y.write(0, 0, "30");
        y.thin();
        Due.is("are dropped, without any version", y.count(0), 0);
        Due.is("its pack stays begun", y.count(1), 1);
        Due.sentence("but those of contents of files that are noted at a machine and have their content there");
        for (int machine = 0; machine < 3; machine++) {
            House z = new House();
            z.write(machine, 0, "102030");
            z.write(machine, 15, "4050");
            z.upload(machine, 2);
            z.thin();
            Due.is("the first one", z.count(0), 2);
            z.upload(machine, 2);
            z.thin();
            Due.is("and the last one", z.count(0), 4);
            z.erase(machine, 15);
            z.thin();
            Due.is("erased, though noted", z.count(0), 3);
            z.upload(machine, 100);
            z.thin();
            Due.is("in a version then", z.count(0), 3);
        }
    }

    private static void piecesOfNoted() {
        Due.sentence("those known only have none");
        House x = new House();
        x.put(0, 0, "10");
        x.fetch(1, 0);
        x.write(1, 0, "10");
        x.put(0, 0, "20");
        x.pull(1);
        Due.is("noted", x.noted(1), 1);
        Due.is("and known only", x.stateOf(1, 0), KNOWN);
        x.pass(24);
        Due.is("the first version goes", x.thin(), 1);
        Due.is("and 10", x.count(0), 1);
        House y = new House();
        y.put(0, 0, "10");
        y.pull(1);
        y.late(1, 1);
        y.erase(1, 0);
        y.put(0, 0, "20");
        y.scan(1);
        y.upload(1, 0);
        y.pass(1);
        Due.is("an erasing that was forgotten, noted late", y.noted(1), 1);
        y.put(0, 0, "30");
        y.pass(23);
        Due.is("two versions go", y.thin(), 2);
        Due.is("with the piece of the known one", y.count(0), 1);
        y.noState("which is missing then", Calls.OPEN, 1, 0);
        Due.sentence("noted, and there, though not changed");
        House z = new House();
        z.put(0, 0, "10");
        z.fetch(1, 0);
        z.move(1, 0, 0);
        z.put(0, 0, "20");
        z.pass(24);
        Due.is("the first version goes", z.thin(), 1);
        Due.is("10 stays", z.count(0), 2);
        z.upload(1, 0);
        z.thin();
        Due.is("till it is noted no more", z.count(0), 1);
        Due.sentence("there, but not noted");
        House w = new House();
        w.share(0, 0, READ, 9);
        w.write(0, 0, "10");
        Due.is("refused", w.upload(0, 9), 0);
        Due.is("10 came", w.count(0), 1);
        w.thin();
        Due.is("and goes", w.count(0), 0);
        House v = new House();
        v.write(0, 0, "1020");
        v.upload(0, 1);
        v.late(0, 9);
        v.write(0, 0, "1020");
        v.share(0, 0, READ, 9);
        v.upload(0, 9);
        v.thin();
        Due.is("an event that has not come notes nothing", v.count(0), 0);
        v.pass(9);
        v.upload(0, 9);
        Due.is("it has to be uploaded again", v.count(7), 4);
    }

    private static void restores() {
        Due.sentence("restore: time: 0 to now; with the content and folder of its version as of then, if it has one");
        House x = new House();
        Due.is("none", x.restore(0, 0), NONE);
        x.noArgument("after now", Calls.RESTORE, 0, 1);
        x.noArgument("before the hour 0", Calls.RESTORE, 0, -1);
        x.pass(5);
        x.put(0, 9, "123");
        x.pass(3);
        x.write(0, 9, "45");
        x.move(0, 9, 0);
        x.upload(0, 9);
        x.pass(2);
        Due.is("the hour before its first one", x.restore(9, 4), NONE);
        Due.is("as of the hour 0", x.restore(9, 0), NONE);
        Due.is("of its hour", x.restore(9, 5), 2);
        int[] told = {9, 10, NONE, 1, 3, 1};
        for (int what = 0; what < told.length; what++) {
            Due.is("told " + what, x.version(2, what), told[what]);
        }
        Due.is("up to the hour before the next", x.restore(9, 7), NONE);
        Due.is("of the next one's hour", x.restore(9, 8), 3);
        Due.is("in its folder", x.version(3, 3), 0);
        Due.is("now", x.restore(9, 10), NONE);
        Due.is("not seen by machines", x.seen(0, 9), 1);
        Due.is("no pieces come", x.count(7), 2);
        Due.is("entries", x.count(4), 4);
        x.pull(0);
        Due.is("till they pull", x.seen(0, 9), 3);
        Due.is("its content", x.content(0, 9), "45");
        Due.is("of the last file", lastRestored(), 2);
        Due.sentence("or the deletion");
        x.delete(0, 9);
        x.pass(1);
        Due.is("the same deletion", x.restore(9, 10), NONE);
        Due.is("a content", x.restore(9, 5), 5);
        Due.is("the deletion", x.restore(9, 10), 6);
        Due.is("has no folder", x.version(6, 3), NONE);
        Due.is("nor a length", x.version(6, 4), 0);
        Due.is("by nobody", x.version(6, 2), NONE);
        Due.sentence("and its latest one is not the same");
        House y = new House();
        y.put(0, 0, "11");
        y.pass(1);
        Due.is("the same one", y.restore(0, 0), NONE);
        y.put(0, 0, "12");
        y.put(0, 0, "11");
        Due.is("another one that is the same", y.restore(0, 0), NONE);
        y.move(0, 0, 1);
        y.upload(0, 0);
        Due.is("the same in another folder", y.restore(0, 0), 4);
        y.put(1, 4, "11");
        y.put(0, 4, "1");
        Due.is("versions of another file are nothing", y.restore(4, 0), NONE);
        Due.sentence("that is kept");
        House z = madeAt(0, 1, 2);
        z.hold(0, 1, 1);
        z.pass(40);
        z.thin();
        Due.is("0 is dropped", z.restore(0, 0), NONE);
        Due.is("1 is held", z.restore(0, 1), 3);
        z.lock(2, 0, 9);
        z.share(0, 1, READ, 9);
        Due.is("neither locks nor rights hinder", z.restore(0, 2), 4);
        Due.is("the lock stays", z.lockOf(0), 2);
        Due.is("nor damage", z.damage(0) + z.restore(0, 1), 7);
    }

    private static int lastRestored() {
        House x = new House();
        x.put(0, 15, "1");
        x.pass(1);
        x.put(0, 15, "2");
        return x.restore(15, 0);
    }

    private static void restoredFolders() {
        Due.sentence("restoreFolder: for each file that is in it as of then, or now");
        House x = new House();
        Due.is("none", x.restoreFolder(0, 0), 0);
        x.noArgument("after now", Calls.RESTORE_FOLDER, 0, 1);
        x.noArgument("before the hour 0", Calls.RESTORE_FOLDER, 0, -1);
        x.put(0, 1, "11");
        x.put(0, 5, "22");
        x.put(0, 9, "33");
        x.put(0, 2, "44");
        x.put(0, 6, "55");
        x.put(0, 13, "66");
        x.delete(0, 13);
        x.pass(1);
        x.move(0, 1, 2);
        x.delete(0, 5);
        x.write(0, 9, "34");
        x.move(0, 2, 1);
        x.write(0, 6, "56");
        x.write(0, 13, "67");
        x.write(0, 3, "77");
        x.move(0, 3, 1);
        Due.is("changed", x.upload(0, 100), 5);
        Due.is("moved out of it, deleted, in it, moved into it, not there then", x.restoreFolder(1, 0), 5);
        Due.is("by rising numbers", x.filesFrom(14), "1 2 5 9 13");
        int first = 14;
        Due.is("back in it", x.version(first, 3), 1);
        Due.is("back out of it", x.version(first + 1, 3), 2);
        Due.is("there again", x.version(first + 2, 3), 1);
        Due.is("in it", x.version(first + 3, 3), 1);
        Due.is("deleted again", x.version(first + 4, 3), NONE);
        Due.is("by nobody", x.version(first + 4, 2), NONE);
        Due.is("of now", x.version(first + 4, 1), 1);
        Due.is("none is other then", x.restoreFolder(1, 0), 0);
        Due.is("as of now", x.restoreFolder(1, 1), 0);
        Due.is("another folder", x.restoreFolder(2, 0), 1);
        Due.is("file 6", x.version(x.versions() - 1, 0), 6);
        Due.is("one without files", x.restoreFolder(3, 0), 0);
    }

    private static void restoredEdges() {
        Due.sentence("restoreFolder: a file that is in it neither as of then, nor now");
        House x = new House();
        x.put(0, 0, "11");
        x.pass(1);
        x.move(0, 0, 1);
        x.upload(0, 0);
        x.pass(1);
        x.move(0, 0, 2);
        x.upload(0, 0);
        Due.is("though between", x.restoreFolder(1, 0), 0);
        Due.is("as of between", x.restoreFolder(1, 1), 1);
        Due.is("it is there", x.version(3, 3), 1);
        Due.is("the last folder and none", x.restoreFolder(3, 1), 0);
        Due.sentence("restoreFolder: a file that has no version as of then, and is in it now");
        House y = new House();
        y.pass(1);
        y.put(0, 3, "11");
        Due.is("stays", y.restoreFolder(3, 0), 0);
        Due.is("also as of now", y.restoreFolder(3, 1), 0);
        Due.sentence("restoreFolder: a file that is deleted now, and was in it as of then");
        y.pass(1);
        y.delete(0, 3);
        Due.is("comes back", y.restoreFolder(3, 1), 1);
        Due.is("as it was", y.version(2, 4), 2);
        Due.sentence("restoreFolder: a file that was deleted as of then, and now");
        House z = new House();
        z.put(0, 3, "11");
        z.delete(0, 3);
        z.pass(1);
        Due.is("is in none", z.restoreFolder(3, 0) + z.restoreFolder(3, 1), 0);
        Due.sentence("restoreFolder: the first and the last file");
        House w = new House();
        w.put(0, 15, "1");
        w.write(0, 0, "1");
        w.move(0, 0, 3);
        w.upload(0, 9);
        w.pass(1);
        w.write(0, 15, "2");
        w.write(0, 0, "2");
        w.upload(0, 9);
        Due.is("both", w.restoreFolder(3, 0), 2);
        Due.is("by rising numbers", w.filesFrom(4), "0 15");
    }

    public static void main(String[] args) {
        ages();
        oldAges();
        holds();
        pieces();
        piecesOfNoted();
        restores();
        restoredFolders();
        restoredEdges();
        Due.end("ThinEdgesTest");
    }
}
