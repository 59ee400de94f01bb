/** The edges of the document's words on uploading: pieces, what a machine may, conflicts, and what is REFUSED. */
public final class UploadEdgesTest {
    private static final int NONE = KeeperHouse.NONE;
    private static final int NO_RIGHT = KeeperHouse.NO_RIGHT;
    private static final int READ = KeeperHouse.READ;
    private static final int WRITE = KeeperHouse.WRITE;
    private static final int ABSENT = KeeperHouse.ABSENT;
    private static final int KNOWN = KeeperHouse.KNOWN;
    private static final int THERE = KeeperHouse.THERE;
    private static final int CONFLICTS = 5;
    private static final int REFUSALS = 6;
    private static final int UPLOADED = 7;

    private static void pieces() {
        Due.sentence("the pieces of its content that the house does not have are uploaded, each counting one");
        House x = new House();
        Due.is("none is noted", x.upload(0, 100), 0);
        x.write(0, 3, "111122223333");
        Due.is("no pieces", x.upload(0, 0), 0);
        Due.is("none came", x.count(UPLOADED), 0);
        Due.is("it is noted still", x.noted(0), 1);
        Due.is("one fewer than are missing", x.upload(0, 2), 0);
        Due.is("came", x.count(UPLOADED), 2);
        Due.is("it is noted still", x.noted(0), 1);
        Due.is("none again", x.upload(0, 0), 0);
        Due.is("the last that is missing", x.upload(0, 1), 1);
        Due.is("noted no more", x.noted(0), 0);
        Due.is("all came", x.count(UPLOADED), 3);
        x.noArgument("below none", Calls.UPLOAD, 0, -1);
        x.noArgument("above 100", Calls.UPLOAD, 0, 101);
        House y = new House();
        y.write(0, 3, "111122223333");
        Due.is("just as many as are missing", y.upload(0, 3), 1);
        House z = new House();
        z.write(0, 3, "111122223333");
        Due.is("one more than are missing", z.upload(0, 4), 1);
        Due.is("no more came", z.count(UPLOADED), 3);
        Due.sentence("the first one first");
        House w = new House();
        w.write(0, 3, "111122223333");
        w.upload(0, 1);
        w.write(1, 4, "3333");
        Due.is("not the last", w.upload(1, 0), 0);
        w.write(2, 5, "1111");
        Due.is("the first", w.upload(2, 0), 1);
        w.upload(0, 1);
        w.write(2, 6, "2222");
        Due.is("then the second", w.upload(2, 0), 1);
        w.upload(1, 1);
        Due.is("one that another machine uploads is not missing", w.upload(0, 0), 1);
        Due.is("pieces", w.count(UPLOADED), 3);
        Due.sentence("pieces that the house has count none");
        House v = new House();
        v.put(0, 0, "11112222");
        v.write(0, 1, "2222111133");
        Due.is("two of three are had", v.upload(0, 1), 1);
        v.write(0, 2, "4444");
        v.write(0, 3, "44445");
        v.write(0, 4, "54444");
        Due.is("a piece of several files is uploaded once", v.upload(0, 2), 2);
        Due.is("5444 is missing", v.noted(0), 1);
        Due.is("and 4 not", v.upload(0, 1), 0);
        Due.is("it is", v.upload(0, 1), 1);
        v.write(0, 5, "60606060");
        Due.is("a piece that is in a content more than once", v.upload(0, 1), 1);
    }

    private static void manyPieces() {
        Due.sentence("pieces: 0 to 100");
        House x = new House();
        int made = 0;
        for (int file = 0; file < 16; file++) {
            for (int part = 1; part <= 4; part++) {
                x.draft(1 + made / 9 % 9);
                x.draft(1 + made % 9);
                x.draft(0);
                made++;
            }
            x.write(0, file);
        }
        Due.is("all that 16 files need", x.upload(0, 100), 16);
        Due.is("64", x.count(UPLOADED), 64);
        Due.is("in 13 packs", x.count(1), 13);
        Due.is("the last is not full", x.damage(12), 4);
        Due.is("one before it is", x.damage(11), 5);
        x.noIndex("there are no more", Calls.DAMAGE, 13);
    }

    private static void order() {
        Due.sentence("Without pieces left it still goes on, as long as the first one needs none");
        House x = new House();
        x.put(0, 8, "1111");
        x.write(0, 0, "2222");
        x.write(0, 9, "1111");
        x.erase(0, 8);
        x.write(0, 1, "2222");
        x.write(0, 2, "3333");
        x.write(0, 3, "1111");
        Due.is("up to the one that needs one", x.upload(0, 1), 4);
        Due.is("in their order", x.filesFrom(1), "0 9 8 1");
        Due.is("those behind it wait, though one needs none", x.noted(0), 2);
        Due.is("none", x.upload(0, 0), 0);
        Due.is("both", x.upload(0, 1), 2);
        Due.sentence("The first one, if it is not changed any more, is noted no more");
        House y = new House();
        y.put(0, 1, "11");
        y.write(0, 1, "22");
        y.write(0, 2, "33");
        y.write(0, 1, "11");
        Due.is("it makes no version", y.upload(0, 0), 0);
        Due.is("the next one is noted still", y.noted(0), 1);
        Due.is("none of its pieces came", y.count(UPLOADED), 1);
        y.write(0, 3, "44");
        y.erase(0, 3);
        y.erase(0, 2);
        Due.is("nor do those that were never there", y.upload(0, 100), 0);
        Due.is("none is noted", y.noted(0), 0);
        House z = new House();
        z.write(0, 1, "1");
        z.write(0, 2, "2");
        z.write(0, 3, "3");
        z.upload(0, 1);
        z.late(0, 1);
        z.erase(0, 2);
        z.pass(1);
        Due.is("an erased one in the midst", z.upload(0, 1), 1);
        Due.is("is left out", z.filesFrom(0), "1 3");
        Due.sentence("One that was erased is looked at without pieces");
        House w = new House();
        w.put(0, 1, "11");
        w.erase(0, 1);
        Due.is("with none", w.upload(0, 0), 1);
        Due.is("a deletion", w.version(1, 3), NONE);
        Due.is("of no length", w.version(1, 4), 0);
        Due.is("seen", w.seen(0, 1), 1);
        Due.is("one", w.upload(0, 0), 0);
        Due.sentence("A piece that is damaged is had all the same, when it comes to uploading");
        House v = new House();
        v.put(0, 1, "11");
        v.damage(0);
        v.write(1, 2, "11");
        Due.is("none is missing", v.upload(1, 0), 1);
        Due.is("it is damaged still", v.count(2), 1);
    }

    /** Machine 1 edits file 5, of folder 1, with these rights; answers how many conflicts there are. */
    private static int conflictsOf(boolean isMoved, int rightThere, int rightToNew) {
        House x = new House();
        x.put(0, 5, "11");
        x.fetch(1, 5);
        x.share(1, 1, rightThere, 9);
        x.share(2, 1, rightToNew, 9);
        if (isMoved) {
            x.move(1, 5, 2);
        } else {
            x.write(1, 5, "22");
        }
        Due.is("a version, this or another", x.upload(1, 9), x.count(REFUSALS) == 1 ? 0 : 1);
        boolean isIts = x.versions() == 2 && x.version(1, 0) == 5;
        Due.is("acknowledged, or a conflict", isIts, x.count(CONFLICTS) == 0);
        return x.count(CONFLICTS);
    }

    private static void rights() {
        Due.sentence("if it may write to the folder in which the house has it now");
        int[] rights = {NO_RIGHT, READ, WRITE};
        for (int there : rights) {
            for (int toNew : rights) {
                Due.is("a content, with " + there + " " + toNew, conflictsOf(false, there, toNew), there == WRITE ? 0 : 1);
                Due.is("and, if it moves it, to the new one, too: with " + there + " " + toNew,
                        conflictsOf(true, there, toNew), there == WRITE && toNew == WRITE ? 0 : 1);
            }
        }
        for (int right : rights) {
            House x = new House();
            x.put(0, 5, "11");
            x.pull(1);
            for (int folder = 0; folder < 4; folder++) {
                x.share(folder, 1, folder == 1 ? right : NO_RIGHT, 9);
            }
            x.erase(1, 5);
            Due.is("an erasing, with " + right, x.upload(1, 0), right == WRITE ? 1 : 0);
            Due.is("otherwise it is forgotten", x.stateOf(1, 5), right == WRITE ? ABSENT : KNOWN);
            Due.is("as a conflict", x.count(CONFLICTS), right == WRITE ? 0 : 1);
            Due.is("not refused", x.count(REFUSALS), 0);
        }
        Due.sentence("or, if it is not there in the house, to that in which the machine has it");
        for (int right : rights) {
            House x = new House();
            for (int folder = 0; folder < 4; folder++) {
                x.share(folder, 1, folder == 2 ? right : NO_RIGHT, 9);
            }
            x.write(1, 5, "11");
            x.move(1, 5, 2);
            Due.is("a new one, with " + right, x.upload(1, 9), right == WRITE ? 1 : 0);
            Due.is("conflict", x.count(CONFLICTS), right == WRITE ? 0 : 1);
            Due.is("refused", x.count(REFUSALS), right == WRITE ? 0 : 1);
            House y = new House();
            y.put(1, 5, "11");
            y.delete(1, 5);
            for (int folder = 0; folder < 4; folder++) {
                y.share(folder, 1, folder == 2 ? right : NO_RIGHT, 9);
            }
            y.write(1, 5, "11");
            y.move(1, 5, 2);
            Due.is("a deleted one, with " + right, y.upload(1, 9), right == WRITE ? 1 : 0);
            Due.is("conflict", y.count(CONFLICTS), right == WRITE ? 0 : 1);
            Due.is("refused", y.count(REFUSALS), right == WRITE ? 0 : 1);
        }
    }

    private static void rightsInTime() {
        Due.sentence("A folder is shared up to a time, that excluded: to write");
        House x = new House();
        x.share(1, 1, WRITE, 3);
        x.pass(2);
        Due.is("up to it", x.put(1, 5, "11"), 1);
        x.pass(1);
        Due.is("no more then", x.put(1, 5, "22"), 0);
        Due.is("refused", x.count(REFUSALS), 1);
        x.share(1, 1, WRITE, 1);
        Due.is("noted no more", x.upload(1, 9), 0);
        x.scan(1);
        Due.is("shared again", x.upload(1, 9), 1);
    }

    /** Machine 1 puts file 0 an hour before, or at, the end of the lock of another machine. */
    private static void locked(int holder, int hours, int passed, boolean isFree) {
        House x = new House();
        x.lock(holder, 4, hours);
        if (passed > 0) {
            x.pass(passed);
        }
        String what = "lock of " + holder + " for " + hours + ", after " + passed;
        Due.is(what, x.put(1, 4, "11"), 1);
        Due.is(what + ": the file", x.version(0, 0), isFree ? 4 : 0);
        Due.is(what + ": conflicts", x.count(CONFLICTS), isFree ? 0 : 1);
    }

    private static void locks() {
        Due.sentence("and nobody else has a lock on it");
        locked(0, 5, 0, false);
        locked(2, 5, 0, false);
        locked(1, 5, 0, true);
        locked(0, 1, 1, true);
        locked(0, 5, 4, false);
        locked(0, 5, 5, true);
        locked(2, 48, 47, false);
        locked(2, 48, 48, true);
        locked(1, 2, 2, true);
        House y = new House();
        y.lock(1, 4, 9);
        y.put(1, 4, "11");
        Due.is("acknowledging leaves the lock", y.lockOf(4), 1);
        y.delete(1, 4);
        Due.is("a deletion, too", y.lockOf(4), 1);
        House x = new House();
        x.lock(0, 4, 9);
        x.lock(0, 12, 9);
        x.breakLock(4);
        x.put(1, 4, "11");
        Due.is("a broken one, and one of another file", x.count(CONFLICTS), 0);
        x.lock(0, 4, 9);
        Due.is("an erasing behind a lock", x.delete(1, 4), 0);
        Due.is("is forgotten", x.stateOf(1, 4), KNOWN);
        Due.is("a conflict", x.count(CONFLICTS), 1);
        x.open(1, 4);
        x.move(1, 4, 1);
        Due.is("a move behind a lock", x.upload(1, 0), 1);
        Due.is("makes another file", x.version(1, 0), 0);
        Due.is("in the new folder", x.version(1, 3), 1);
        Due.is("the file is where it was", x.folderOf(1, 4), 0);
        Due.is("a file that has none is not its own other one", lockedFirst(), 1);
    }

    private static int lockedFirst() {
        House x = new House();
        x.lock(2, 0, 9);
        x.put(1, 0, "11");
        Due.is("not there any more", x.stateOf(1, 0), ABSENT);
        Due.is("seen none", x.seen(1, 0), NONE);
        return x.version(0, 0);
    }

    private static void unlessTheSame() {
        Due.sentence("unless the latest one is the same as what the machine has, which is seen then");
        House x = new House();
        x.put(0, 4, "11");
        x.write(1, 4, "11");
        Due.is("the same", x.upload(1, 9), 0);
        Due.is("no conflict", x.count(CONFLICTS), 0);
        Due.is("seen", x.seen(1, 4), 0);
        Due.is("there still", x.stateOf(1, 4), THERE);
        Due.is("not changed", x.isChanged(1, 4), false);
        x.share(0, 2, NO_RIGHT, 9);
        x.lock(0, 4, 9);
        x.write(2, 4, "11");
        Due.is("also if it may not", x.upload(2, 9), 0);
        Due.is("no conflict", x.count(CONFLICTS), 0);
        Due.is("seen", x.seen(2, 4), 0);
        x.breakLock(4);
        x.erase(0, 4);
        x.erase(1, 4);
        x.erase(2, 4);
        x.lock(0, 4, 9);
        Due.is("a deletion", x.upload(0, 0), 1);
        Due.is("the same deletion", x.upload(1, 0), 0);
        Due.is("also if it may not", x.upload(2, 0), 0);
        Due.is("seen", x.seen(1, 4) + x.seen(2, 4), 2);
        Due.is("no conflict", x.count(CONFLICTS), 0);
        House y = new House();
        y.put(0, 4, "11");
        y.write(1, 4, "11");
        y.move(1, 4, 1);
        Due.is("in another folder it is not the same", y.upload(1, 9), 1);
        Due.is("conflict", y.count(CONFLICTS), 1);
        y.write(2, 4, "12");
        Due.is("nor with another number", y.upload(2, 9), 1);
        Due.is("conflict", y.count(CONFLICTS), 2);
        Due.is("both as others", y.filesFrom(1), "0 1");
    }

    private static void anotherVersion() {
        Due.sentence("if the latest version is another one than it has seen");
        House x = new House();
        x.put(0, 4, "11");
        x.pull(1);
        x.pull(2);
        x.put(0, 4, "22");
        x.pass(1);
        x.put(0, 4, "11");
        x.write(1, 4, "33");
        Due.is("also one that is like that which it has seen", x.upload(1, 9), 1);
        Due.is("conflict", x.count(CONFLICTS), 1);
        Due.is("another file", x.version(3, 0), 0);
        Due.is("the latest is seen", x.seen(1, 4), 2);
        x.erase(2, 4);
        Due.is("of an erasing, too", x.upload(2, 0), 0);
        Due.is("conflict", x.count(CONFLICTS), 2);
        Due.is("forgotten", x.stateOf(2, 4), KNOWN);
        Due.is("the latest is seen", x.seen(2, 4), 2);
        Due.sentence("or there is one, though it has seen none");
        House y = new House();
        y.put(0, 4, "11");
        y.write(1, 4, "22");
        Due.is("another file", y.upload(1, 9), 1);
        Due.is("it", y.version(1, 0), 0);
        Due.is("conflict", y.count(CONFLICTS), 1);
        Due.sentence("no conflict, if the latest version is that which it has seen");
        House z = new House();
        z.put(0, 4, "11");
        z.fetch(1, 4);
        z.write(1, 4, "22");
        Due.is("its own", z.upload(1, 9), 1);
        Due.is("conflict", z.count(CONFLICTS), 0);
        Due.is("the same file", z.version(1, 0), 4);
        z.pass(7);
        z.move(1, 4, 2);
        z.upload(1, 0);
        Due.is("of now", z.version(2, 1), 7);
        Due.is("seen then", z.seen(1, 4), 2);
        Due.is("by the machine", z.version(2, 2), 1);
    }

    private static void forgotten() {
        Due.sentence("If the machine erased the file, that is forgotten; it is as the latest version, known only");
        House x = new House();
        x.put(0, 4, "11");
        x.fetch(1, 4);
        x.write(0, 4, "22");
        x.move(0, 4, 3);
        x.upload(0, 9);
        x.erase(1, 4);
        Due.is("no version", x.upload(1, 9), 0);
        Due.is("known only", x.stateOf(1, 4), KNOWN);
        Due.is("in its new folder", x.folderOf(1, 4), 3);
        Due.is("seen", x.seen(1, 4), 1);
        Due.is("not changed", x.isChanged(1, 4), false);
        Due.is("noted no more", x.noted(1), 0);
        Due.is("nothing is taken", x.taken(1), 0);
        x.open(1, 4);
        Due.is("its content", x.content(1, 4), "22");
    }

    private static void overDeletion() {
        Due.sentence("Otherwise, if the latest one is a deletion, and it may: it is acknowledged all the same");
        House x = new House();
        x.put(0, 4, "11");
        x.pull(1);
        x.delete(0, 4);
        x.write(1, 4, "22");
        Due.is("one", x.upload(1, 9), 1);
        Due.is("the same file", x.version(2, 0), 4);
        Due.is("seen", x.seen(1, 4), 2);
        Due.is("there", x.stateOf(1, 4), THERE);
        Due.is("a conflict", x.count(CONFLICTS), 1);
        Due.is("though it has seen none", overDeletion(false, WRITE), 4);
        House y = new House();
        y.put(0, 5, "11");
        y.fetch(1, 5);
        y.delete(0, 5);
        y.move(1, 5, 2);
        y.share(1, 1, READ, 9);
        Due.is("the folder in which it was asks for no right", y.upload(1, 0), 1);
        Due.is("the same file", y.version(2, 0), 5);
        Due.is("in the folder of the machine", y.version(2, 3), 2);
        Due.is("not with another one's lock", overDeletion(true, WRITE), 0);
        Due.is("not without the right", overDeletion(false, READ), NONE);
    }

    /** A machine that has seen nothing writes a deleted file; answers the file that was made. */
    private static int overDeletion(boolean isLocked, int right) {
        House x = new House();
        x.put(0, 4, "11");
        x.delete(0, 4);
        x.write(1, 4, "22");
        if (isLocked) {
            x.lock(2, 4, 9);
        }
        x.share(0, 1, right, 9);
        int made = x.upload(1, 9);
        Due.is("a conflict", x.count(CONFLICTS), 1);
        Due.is("refused without a version", x.count(REFUSALS), 1 - made);
        if (isLocked) {
            Due.is("it is not there then", x.stateOf(1, 4), ABSENT);
            Due.is("the deletion is seen", x.seen(1, 4), 1);
            Due.is("not changed", x.isChanged(1, 4), false);
        }
        return made == 0 ? NONE : x.version(2, 0);
    }

    private static void bothKept() {
        Due.sentence("Otherwise both are kept: the lowest file");
        House x = new House();
        x.put(0, 6, "11");
        x.pull(1);
        x.put(0, 6, "22");
        x.pass(8);
        x.write(1, 6, "33");
        x.move(1, 6, 3);
        int uploaded = x.count(UPLOADED);
        Due.is("a version", x.upload(1, 9), 1);
        int[] told = {0, 8, 1, 3, 2, 1};
        for (int what = 0; what < told.length; what++) {
            Due.is("in the machine's folder, of now: " + what, x.version(2, what), told[what]);
        }
        Due.is("no piece comes twice", x.count(UPLOADED), uploaded + 1);
        Due.is("THERE at the machine", x.stateOf(1, 0), THERE);
        Due.is("as that", x.content(1, 0), "33");
        Due.is("in that folder", x.folderOf(1, 0), 3);
        Due.is("seen", x.seen(1, 0), 2);
        Due.is("not changed", x.isChanged(1, 0), false);
        Due.is("not noted", x.noted(1), 0);
        Due.is("itself known only", x.stateOf(1, 6), KNOWN);
        Due.is("as the latest", x.seen(1, 6), 1);
        Due.is("in its folder", x.folderOf(1, 6), 2);
        Due.is("not changed", x.isChanged(1, 6), false);
        Due.is("nothing at others", x.stateOf(2, 0) + x.stateOf(0, 0), 0);
        Due.is("nobody has a lock on it", x.lockOf(0), NONE);
        House u = new House();
        u.put(0, 6, "11");
        u.write(1, 6, "33");
        u.late(1, 3);
        Due.is("with late events", u.upload(1, 9), 1);
        Due.is("it is no edit", u.lose(1), 0);
        House w = new House();
        w.put(0, 6, "11");
        w.write(1, 6, "1111");
        w.upload(1, 0);
        w.put(2, 7, "1111");
        w.write(1, 8, "22");
        Due.is("with a next one that waits", w.upload(1, 0), 1);
        Due.is("that alone is noted", w.noted(1), 1);
        Due.sentence("known only, also if its content is the same");
        House y = new House();
        y.put(0, 6, "11");
        y.fetch(1, 6);
        y.move(0, 6, 1);
        y.upload(0, 0);
        y.move(1, 6, 3);
        Due.is("two folders", y.upload(1, 0), 1);
        Due.is("itself", y.stateOf(1, 6) * 10 + y.folderOf(1, 6), KNOWN * 10 + 1);
        Due.is("the other", y.stateOf(1, 0) * 10 + y.folderOf(1, 0), THERE * 10 + 3);
        Due.sentence("two conflicts of one upload get two files");
        House z = new House();
        z.put(0, 0, "11");
        z.put(0, 2, "22");
        z.write(1, 2, "33");
        z.write(1, 0, "44");
        Due.is("two", z.upload(1, 9), 2);
        Due.is("the lowest one first", z.filesFrom(2), "1 3");
        Due.is("of the first", z.content(1, 1), "33");
        Due.is("of the second", z.content(1, 3), "44");
        Due.is("conflicts", z.count(CONFLICTS), 2);
    }

    /** A conflict of file 15 at machine 1; answers the file that it makes, NONE if it is refused. */
    private static int spareOf(House x) {
        x.put(0, 15, "11");
        x.write(1, 15, "22");
        int made = x.upload(1, 9);
        return made == 0 ? NONE : x.version(x.versions() - 1, 0);
    }

    private static void lowestFile() {
        Due.sentence("the lowest file that is not there in the house, nor at any machine, and has no version");
        Due.is("the first", spareOf(new House()), 0);
        House x = new House();
        x.put(2, 0, "5");
        Due.is("not one that is in the house", spareOf(x), 1);
        for (int machine = 0; machine < 3; machine++) {
            House y = new House();
            y.late(machine, 50);
            y.write(machine, 0, "5");
            y.write(machine, 1, "5");
            y.late(machine, 0);
            Due.is("nor one that is at machine " + machine, spareOf(y), 2);
            House z = new House();
            z.late(machine, 50);
            z.write(machine, 0, "5");
            z.erase(machine, 0);
            z.late(machine, 0);
            Due.is("one that it has no more is free", spareOf(z), 0);
        }
        House w = new House();
        w.put(2, 0, "5");
        w.delete(2, 0);
        Due.is("nor one that has a version, if only a deletion", spareOf(w), 1);
        House v = new House();
        v.put(2, 0, "5");
        v.delete(2, 0);
        v.passAll(300);
        v.thin();
        Due.is("kept or not", spareOf(v), 1);
        House u = new House();
        u.lock(2, 0, 9);
        Due.is("a lock on it does not hinder", spareOf(u), 0);
        Due.is("only the last is left", spareFrom(14), 14);
        Due.is("none is left", spareFrom(15), NONE);
    }

    /** The files below this one are in the house. */
    private static int spareFrom(int files) {
        House x = new House();
        for (int file = 0; file < files; file++) {
            x.write(2, file, "5");
        }
        x.upload(2, 100);
        int spare = spareOf(x);
        Due.is("refused", x.count(REFUSALS), spare == NONE ? 1 : 0);
        Due.is("conflict", x.count(CONFLICTS), 1);
        if (spare == NONE) {
            Due.is("it stays there", x.stateOf(1, 15), THERE);
            Due.is("it has seen none", x.seen(1, 15), NONE);
            Due.is("noted no more", x.noted(1), 0);
            Due.is("changed", x.scan(1), 1);
            Due.is("refused again", x.upload(1, 9), 0);
            Due.is("that counts again", x.count(REFUSALS) + x.count(CONFLICTS), 4);
        }
        return spare;
    }

    private static void fifteen() {
        Due.sentence("the lowest file, if that is the last one of all");
        House x = new House();
        for (int file = 0; file < 15; file++) {
            x.write(0, file, "5");
        }
        x.upload(0, 100);
        x.write(1, 0, "6");
        Due.is("a version", x.upload(1, 9), 1);
        Due.is("15", x.version(15, 0), 15);
        Due.is("in the machine's folder, not that of its number", x.folderOf(1, 15), 0);
        Due.is("seen", x.seen(1, 15), 15);
    }

    private static void refused() {
        Due.sentence("if it may write to that; if it may not, the file is REFUSED: it stays changed, is noted no more");
        int[] rights = {NO_RIGHT, READ, WRITE};
        for (int right : rights) {
            House x = new House();
            x.put(0, 4, "11");
            x.pull(1);
            x.put(0, 4, "22");
            x.write(1, 4, "33");
            x.move(1, 4, 3);
            x.share(3, 1, right, 9);
            boolean may = right == WRITE;
            Due.is("with " + right, x.upload(1, 9), may ? 1 : 0);
            Due.is("conflicts", x.count(CONFLICTS), 1);
            Due.is("refused", x.count(REFUSALS), may ? 0 : 1);
            Due.is("changed", x.isChanged(1, 4), !may);
            Due.is("state", x.stateOf(1, 4), may ? KNOWN : THERE);
            Due.is("folder", x.folderOf(1, 4), may ? 0 : 3);
            Due.is("seen", x.seen(1, 4), may ? 1 : 0);
            Due.is("noted", x.noted(1), 0);
            x.pass(1);
            Due.is("nor in the next hour", x.noted(1) + x.lose(1), 0);
            Due.is("pieces came all the same", x.count(UPLOADED), 3);
            Due.is("no other file", x.stateOf(1, 0), may ? THERE : ABSENT);
            x.share(3, 1, WRITE, 9);
            Due.is("it can be scanned", x.scan(1), may ? 0 : 1);
            Due.is("and kept, if it may", x.upload(1, 0), may ? 0 : 1);
        }
        Due.sentence("and it is the turn of the next one");
        House y = new House();
        y.put(0, 4, "11");
        y.write(1, 4, "22");
        y.write(1, 5, "33");
        y.share(0, 1, READ, 9);
        Due.is("behind one that is refused", y.upload(1, 9), 1);
        Due.is("file 5", y.version(1, 0), 5);
        Due.is("none is noted", y.noted(1), 0);
    }

    public static void main(String[] args) {
        pieces();
        manyPieces();
        order();
        rights();
        rightsInTime();
        locks();
        unlessTheSame();
        anotherVersion();
        forgotten();
        overDeletion();
        bothKept();
        lowestFile();
        fifteen();
        refused();
        Due.end("UploadEdgesTest");
    }
}
