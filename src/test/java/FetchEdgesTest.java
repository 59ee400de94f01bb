/** The edges of the document's words on pulling and opening, on locks and on shares. */
public final class FetchEdgesTest {
    private static final int NONE = KeeperHouse.NONE;
    private static final int NO_RIGHT = KeeperHouse.NO_RIGHT;
    private static final int READ = KeeperHouse.READ;
    private static final int WRITE = KeeperHouse.WRITE;
    private static final int ABSENT = KeeperHouse.ABSENT;
    private static final int KNOWN = KeeperHouse.KNOWN;
    private static final int THERE = KeeperHouse.THERE;

    private static void pulls() {
        Due.sentence("A machine pulls: returns how many files are other than before");
        House x = new House();
        Due.is("none in the house", x.pull(1), 0);
        for (int file = 0; file < 16; file++) {
            x.write(0, file, "12");
        }
        x.upload(0, 100);
        Due.is("all", x.pull(1), 16);
        Due.is("known", x.states(1), "1111111111111111");
        Due.is("none is other", x.pull(1), 0);
        Due.is("nor at the one that wrote them", x.pull(0), 0);
        Due.is("they are there", x.states(0), "2222222222222222");
        x.write(0, 15, "13");
        x.upload(0, 100);
        Due.is("the last one", x.pull(1), 1);
        x.move(0, 0, 3);
        x.upload(0, 100);
        Due.is("the first one, in its folder", x.pull(1), 1);
        x.delete(0, 7);
        Due.is("there or not", x.pull(1), 1);
        Due.is("not", x.stateOf(1, 7), ABSENT);
        x.put(0, 7, "12");
        Due.is("not or there", x.pull(1), 1);
        x.write(0, 3, "1");
        x.write(0, 4, "22");
        x.erase(0, 5);
        x.move(0, 6, 0);
        x.upload(0, 100);
        Due.is("four", x.pull(1), 4);
        Due.is("four at a third machine, that had none, and others", x.pull(2), 15);
        Due.is("what is deleted is seen there", x.seen(2, 5), x.asOf(5, 0));
    }

    private static void pullsChanged() {
        Due.sentence("for each file that is not changed at it, and has a version");
        House x = new House();
        x.put(0, 1, "11");
        x.fetch(1, 1);
        x.put(0, 1, "22");
        x.write(1, 1, "33");
        Due.is("changed", x.pull(1), 0);
        Due.is("stays", x.content(1, 1), "33");
        Due.is("seen before", x.seen(1, 1), 0);
        x.write(1, 1, "11");
        Due.is("not changed any more", x.pull(1), 1);
        Due.is("known only", x.stateOf(1, 1), KNOWN);
        x.erase(1, 1);
        x.put(0, 1, "44");
        Due.is("erased", x.pull(1), 0);
        Due.is("stays", x.stateOf(1, 1), ABSENT);
        x.write(2, 1, "44");
        Due.is("written, where none was seen, though the same", x.pull(2), 0);
        Due.is("none is seen", x.seen(2, 1), NONE);
        x.write(2, 3, "5");
        Due.is("one that has no version", x.pull(0), 0);
        Due.is("is not there", x.stateOf(0, 3), ABSENT);
        Due.is("nor seen", x.seen(0, 3), NONE);
        Due.is("that what is pulled is noted, is nothing", x.noted(0), 0);
    }

    private static void pullRights() {
        Due.sentence("the folder of whose latest one it may read");
        int[] rights = {NO_RIGHT, READ, WRITE};
        for (int right : rights) {
            House x = new House();
            x.put(0, 1, "11");
            for (int folder = 0; folder < 4; folder++) {
                x.share(folder, 1, folder == 1 ? right : NO_RIGHT, 9);
            }
            int may = right == NO_RIGHT ? 0 : 1;
            Due.is("a new one, with " + right, x.pull(1), may);
            Due.is("seen", x.seen(1, 1), may - 1);
            House y = new House();
            y.put(0, 1, "11");
            y.fetch(1, 1);
            y.move(0, 1, 2);
            y.upload(0, 0);
            for (int folder = 0; folder < 4; folder++) {
                y.share(folder, 1, folder == 2 ? right : NO_RIGHT, 9);
            }
            Due.is("a moved one, with " + right + " to its new folder", y.pull(1), may);
            Due.is("it is there", y.folderOf(1, 1), may == 1 ? 2 : 1);
            House z = new House();
            z.put(0, 1, "11");
            z.fetch(1, 1);
            z.move(0, 1, 2);
            z.upload(0, 0);
            z.delete(0, 1);
            for (int folder = 0; folder < 4; folder++) {
                z.share(folder, 1, folder == 1 ? right : NO_RIGHT, 9);
            }
            Due.is("a deletion, with " + right + " to the folder in which the machine has it", z.pull(1), may);
            Due.is("state", z.stateOf(1, 1), may == 1 ? ABSENT : THERE);
            Due.is("seen", z.seen(1, 1), may * 2);
        }
        Due.sentence("or, if that is a deletion, the one in which the machine has the file, if it has");
        House x = new House();
        x.put(0, 1, "11");
        x.delete(0, 1);
        for (int folder = 0; folder < 4; folder++) {
            x.share(folder, 1, NO_RIGHT, 9);
        }
        Due.is("if it has it not, nothing is other", x.pull(1), 0);
        Due.is("but it is seen", x.seen(1, 1), 1);
        Due.sentence("A folder is shared up to a time, that excluded: to pull");
        House y = new House();
        y.put(0, 1, "11");
        y.share(1, 1, READ, 4);
        y.share(1, 2, READ, 5);
        y.pass(4);
        Due.is("at its end", y.pull(1), 0);
        Due.is("before it", y.pull(2), 1);
    }

    private static void pullContents() {
        Due.sentence("and, if the content is another one than it had, known only");
        House x = new House();
        x.put(0, 1, "11");
        x.fetch(1, 1);
        x.put(0, 1, "12");
        Due.is("another content", x.pull(1), 1);
        Due.is("known only", x.stateOf(1, 1), KNOWN);
        x.open(1, 1);
        x.move(0, 1, 3);
        x.upload(0, 0);
        Due.is("another folder", x.pull(1), 1);
        Due.is("is there", x.stateOf(1, 1), THERE);
        Due.is("with its content", x.content(1, 1), "12");
        x.write(0, 1, "13");
        x.move(0, 1, 0);
        x.upload(0, 9);
        Due.is("both", x.pull(1), 1);
        Due.is("known only", x.stateOf(1, 1) * 10 + x.folderOf(1, 1), KNOWN * 10);
        x.open(1, 1);
        x.pass(1);
        x.put(0, 1, "14");
        x.restore(1, 0);
        x.pull(0);
        x.put(0, 1, "13");
        x.move(0, 1, 0);
        x.upload(0, 9);
        Due.is("the same again", x.pull(1), 0);
        Due.is("is there", x.stateOf(1, 1), THERE);
        Due.is("seen", x.seen(1, 1), x.versions() - 1);
        x.put(0, 2, "22");
        x.pull(2);
        x.put(0, 2, "23");
        x.put(0, 2, "22");
        Due.is("what is known and the same again", x.pull(2), 0);
        Due.is("is known", x.stateOf(2, 2), KNOWN);
        Due.is("seen", x.seen(2, 2), x.versions() - 1);
    }

    private static void opens() {
        Due.sentence("open: Returns how many numbers it has; IllegalStateException if it is ABSENT there");
        House x = new House();
        x.noState("never there", Calls.OPEN, 0, 0);
        x.put(0, 0, "123456789123");
        x.put(0, 1, "0");
        x.noState("at this machine", Calls.OPEN, 1, 0);
        x.pull(1);
        Due.is("the longest", x.open(1, 0), 12);
        Due.is("the shortest", x.open(1, 1), 1);
        Due.is("its content", x.content(1, 0), "123456789123");
        Due.is("there", x.stateOf(1, 0), THERE);
        Due.is("taken", x.taken(1), 13);
        Due.is("again", x.open(1, 0), 12);
        Due.is("taken once", x.taken(1), 13);
        Due.is("one that it wrote", x.open(0, 1), 1);
        x.erase(1, 0);
        x.noState("erased", Calls.OPEN, 1, 0);
        x.put(0, 0, "77");
        x.noState("nor what the house has newly", Calls.OPEN, 1, 0);
        Due.is("that of the version that was seen", oldContent(), 2);
    }

    private static int oldContent() {
        House x = new House();
        x.put(0, 0, "11");
        x.pull(1);
        x.put(0, 0, "222");
        int length = x.open(1, 0);
        Due.is("not the latest", x.content(1, 0), "11");
        Due.is("seen", x.seen(1, 0), 0);
        return length;
    }

    private static void openRights() {
        Due.sentence("or is KNOWN only, and the machine may not read the folder in which it has it");
        House x = new House();
        x.put(0, 1, "11");
        x.pull(1);
        x.pull(2);
        x.move(0, 1, 2);
        x.upload(0, 0);
        x.share(1, 1, NO_RIGHT, 9);
        x.noState("no right", Calls.OPEN, 1, 1);
        x.share(2, 1, NO_RIGHT, 9);
        x.share(1, 1, READ, 9);
        Due.is("to read is enough; where the house has it is nothing", x.open(1, 1), 2);
        x.share(1, 1, NO_RIGHT, 9);
        Due.is("what is there needs no right", x.open(1, 1), 2);
        x.share(1, 2, READ, 2);
        x.pass(2);
        x.noState("a right that has ended in this hour", Calls.OPEN, 2, 1);
        x.share(1, 2, READ, 2);
        x.pass(1);
        Due.is("one that ends in the next hour", x.open(2, 1), 2);
    }

    private static void openPieces() {
        Due.sentence("Nothing is fetched from the house of which a piece is damaged");
        House x = new House();
        x.put(0, 0, "102030405060");
        x.put(0, 1, "10");
        x.put(0, 2, "60");
        x.put(0, 3, "6070");
        x.follow(4);
        x.pull(1);
        x.damage(0);
        x.noState("five pieces of six", Calls.OPEN, 1, 0);
        x.noState("its only one", Calls.OPEN, 1, 1);
        Due.is("one that is whole", x.open(1, 2), 2);
        x.scrub();
        Due.is("mended", x.open(1, 1), 2);
        x.damage(1);
        x.noState("the last piece of six", Calls.OPEN, 1, 0);
        Due.is("the one of which it has the content needs none", x.open(1, 2), 2);
        x.scrub();
        Due.is("mended", x.open(1, 0), 12);
        Due.sentence("or missing there");
        House y = new House();
        y.put(0, 0, "1020");
        y.pull(1);
        y.put(0, 0, "20");
        y.pass(24);
        y.thin();
        y.noState("the first one of two", Calls.OPEN, 1, 0);
        y.put(0, 1, "10");
        Due.is("there again", y.open(1, 0), 4);
        Due.is("its content", y.content(1, 0), "1020");
        House z = new House();
        z.put(0, 0, "1020");
        z.pull(1);
        z.put(0, 0, "10");
        z.follow(2);
        z.pass(24);
        z.thin();
        z.noState("the last one of two, that the second house has no more either", Calls.OPEN, 1, 0);
    }

    /** Machine 1 knows the files 0 to 4 of two numbers each, and file 5 of one. */
    private static House sixKnown(int room) {
        House x = new House();
        for (int file = 0; file < 5; file++) {
            x.write(0, file, "1" + file);
        }
        x.write(0, 5, "7");
        x.upload(0, 100);
        x.pull(1);
        x.room(1, room);
        return x;
    }

    private static void openRoom() {
        Due.sentence("fetches its content, if there is room");
        House x = sixKnown(2);
        Due.is("just as much as it needs", x.open(1, 0), 2);
        House y = sixKnown(1);
        y.noState("one less than it needs", Calls.OPEN, 1, 0);
        Due.is("one that is shorter", y.open(1, 5), 1);
        House z = sixKnown(0);
        z.noState("no room", Calls.OPEN, 1, 5);
        z.write(1, 9, "1");
        Due.is("what is there needs no room", z.open(1, 9), 1);
        Due.sentence("or room can be made");
        x.open(1, 1);
        Due.is("by the other one", x.states(1), "1211110000000000");
        Due.is("taken", x.taken(1), 2);
        House w = sixKnown(4);
        w.open(1, 0);
        w.open(1, 1);
        w.open(1, 5);
        Due.is("two for one", w.states(1), "1211120000000000");
        w.open(1, 2);
        Due.is("until there is, and no more", w.states(1), "1121120000000000");
        Due.is("taken", w.taken(1), 3);
        w.room(1, 2);
        w.open(1, 3);
        Due.is("all that are there", w.states(1), "1112110000000000");
        House v = sixKnown(3);
        v.open(1, 0);
        v.room(1, 1);
        v.noState("not, if all that can be put away is not enough", Calls.OPEN, 1, 1);
        Due.is("then none is put away", v.stateOf(1, 0), THERE);
        v.write(1, 9, "123");
        v.room(1, 4);
        v.noState("what was written takes room", Calls.OPEN, 1, 1);
        v.room(1, 5);
        Due.is("just enough behind that", v.open(1, 1), 2);
        Due.is("by the other one", v.states(1), "1211110002000000");
    }

    private static void putAway() {
        Due.sentence("files that are there with their contents, not changed");
        House x = sixKnown(4);
        x.open(1, 0);
        x.open(1, 1);
        x.move(1, 0, 3);
        x.open(1, 2);
        Due.is("a moved one stays", x.states(1), "2121110000000000");
        x.move(1, 0, 0);
        x.open(1, 3);
        Due.is("one that was moved back does not", x.states(1), "1122110000000000");
        x.write(1, 2, "99");
        x.write(1, 3, "99");
        x.noState("written ones", Calls.OPEN, 1, 0);
        x.upload(1, 100);
        Due.is("acknowledged ones", x.open(1, 0), 2);
        Due.is("are put away, the one opened before", x.states(1), "2112110000000000");
        Due.sentence("and not pinned");
        House y = sixKnown(4);
        y.open(1, 0);
        y.open(1, 1);
        y.pin(1, 0, true);
        y.pin(0, 1, true);
        y.open(1, 2);
        Due.is("a pin at this machine", y.states(1), "2121110000000000");
        y.pin(1, 2, true);
        y.noState("both pinned", Calls.OPEN, 1, 1);
        y.pin(1, 0, false);
        Due.is("no more", y.open(1, 1), 2);
        Due.is("it", y.states(1), "1221110000000000");
        y.pin(1, 5, true);
        y.room(1, 5);
        Due.is("one that is known can be pinned, and opened", y.open(1, 5), 1);
    }

    private static void openedLongestAgo() {
        Due.sentence("the one opened longest ago first");
        House x = sixKnown(6);
        x.open(1, 2);
        x.open(1, 1);
        x.open(1, 0);
        x.open(1, 3);
        Due.is("the first one opened", x.states(1), "2212110000000000");
        Due.sentence("Opening one that has its content counts as opened, too");
        x.open(1, 1);
        x.open(1, 4);
        Due.is("1 was opened again", x.states(1), "1212210000000000");
        x.open(1, 0);
        Due.is("then 3", x.states(1), "2211210000000000");
        x.open(1, 2);
        Due.is("then 1", x.states(1), "2121210000000000");
        House w = sixKnown(4);
        w.open(1, 0);
        w.open(1, 1);
        w.open(1, 1);
        Due.is("that needs no room, so that none is put away", w.states(1), "2211110000000000");
        w.room(1, 0);
        w.open(1, 0);
        Due.is("nor if there is less room than is taken", w.states(1), "2211110000000000");
        Due.sentence("of those never opened the lowest number ahead of all");
        House y = sixKnown(12);
        y.open(1, 0);
        y.write(1, 9, "22");
        y.write(1, 8, "22");
        y.write(1, 15, "22");
        y.upload(1, 100);
        y.open(1, 1);
        y.open(1, 2);
        y.open(1, 3);
        Due.is("8 before 9, 15 and 0", y.states(1), "2222110012000002");
        y.open(1, 4);
        Due.is("then 9", y.states(1), "2222210011000002");
        y.open(1, 8);
        Due.is("then 15", y.states(1), "2222210021000001");
        y.open(1, 9);
        Due.is("then 0", y.states(1), "1222210022000001");
        y.open(1, 15);
        Due.is("then 1", y.states(1), "1122210022000002");
        House z = new House();
        for (int file = 0; file < 16; file++) {
            z.write(2, file, "12");
        }
        z.upload(2, 100);
        z.pull(0);
        Due.is("a long one", z.put(0, 4, "555555555555"), 1);
        Due.is("is known at the others", z.pull(2), 1);
        z.room(2, 32);
        z.open(2, 0);
        z.open(2, 15);
        z.open(2, 7);
        Due.is("it is opened", z.open(2, 4), 12);
        Due.is("five of those never opened go for it", z.states(2), "2111211222222222");
        Due.is("as much is taken as there is room", z.taken(2), 32);
    }

    private static void ofTwoTies() {
        Due.sentence("the one opened longest ago first: what is put away keeps its turn till it is opened again");
        House x = sixKnown(4);
        x.open(1, 0);
        x.open(1, 1);
        x.open(1, 2);
        x.open(1, 0);
        Due.is("0 and 2", x.states(1), "2121110000000000");
        x.open(1, 1);
        Due.is("2 was opened before 0", x.states(1), "2211110000000000");
        x.open(1, 3);
        Due.is("0 before 1", x.states(1), "1212110000000000");
        Due.sentence("of those never opened: one that was opened once is none of them");
        House z = sixKnown(4);
        z.open(1, 0);
        z.write(1, 9, "22");
        z.upload(1, 9);
        z.room(1, 2);
        z.pin(1, 9, true);
        z.room(1, 4);
        z.open(1, 1);
        Due.is("0 is put away", z.states(1), "1211110002000000");
        z.pin(1, 9, false);
        z.write(1, 0, "33");
        z.upload(1, 9);
        z.room(1, 6);
        z.open(1, 2);
        Due.is("9 goes before 0, which was written then", z.states(1), "2221110001000000");
        House w = sixKnown(9);
        w.open(1, 0);
        w.delete(1, 0);
        w.put(1, 0, "33");
        w.put(1, 9, "22");
        w.room(1, 4);
        w.open(1, 1);
        Due.is("9 goes before 0, which was erased and written then", w.states(1), "2211110001000000");
        House v = sixKnown(9);
        v.open(1, 0);
        v.put(0, 0, "33");
        v.pull(1);
        v.put(1, 0, "44");
        v.put(1, 9, "22");
        v.room(1, 4);
        v.open(1, 1);
        Due.is("9 goes before 0, which was known only and written then", v.states(1), "2211110001000000");
        House q = sixKnown(9);
        q.open(1, 0);
        q.delete(0, 0);
        q.pull(1);
        q.put(1, 0, "44");
        q.put(1, 9, "22");
        q.room(1, 4);
        q.open(1, 1);
        Due.is("9 goes before 0, which was gone by a pull and written then", q.states(1), "2211110001000000");
        Due.sentence("of those never opened: a file that came by a conflict");
        House u = sixKnown(9);
        u.open(1, 0);
        u.write(1, 1, "33");
        u.put(0, 1, "44");
        Due.is("is another", u.upload(1, 9), 1);
        Due.is("6", u.states(1), "2111112000000000");
        u.room(1, 4);
        u.open(1, 2);
        Due.is("is put away first", u.states(1), "2121111000000000");
        House t = sixKnown(9);
        t.open(1, 0);
        t.open(1, 1);
        t.pin(1, 1, true);
        t.write(1, 1, "33");
        t.put(0, 1, "44");
        Due.is("of one that was opened, and pinned", t.upload(1, 9), 1);
        t.room(1, 4);
        t.open(1, 2);
        Due.is("is put away first, too", t.states(1), "2121111000000000");
        Due.is("it is not pinned by that", t.pin(1, 6, false), 0);
        Due.is("the pin stays where it was", t.pin(1, 1, false), 1);
        Due.sentence("a call that is refused is no opening");
        House y = sixKnown(4);
        y.open(1, 0);
        y.open(1, 1);
        y.room(1, 1);
        y.noState("no room", Calls.OPEN, 1, 2);
        y.room(1, 4);
        y.open(1, 2);
        Due.is("0 was opened longest ago", y.states(1), "1221110000000000");
        House s = sixKnown(4);
        s.open(1, 0);
        s.room(1, 1);
        Due.is("no room", s.open(1, 2), (int) Calls.NO_STATE);
        s.room(1, 4);
        s.write(1, 2, "12");
        s.open(1, 1);
        Due.is("2, there by a write of what it was, was never opened", s.states(1), "2211110000000000");
        House r = sixKnown(4);
        r.open(1, 2);
        r.open(1, 0);
        r.open(1, 1);
        r.room(1, 1);
        Due.is("no room", r.open(1, 2), (int) Calls.NO_STATE);
        r.room(1, 6);
        r.write(1, 2, "12");
        r.open(1, 3);
        Due.is("2 was opened before 0", r.states(1), "2212110000000000");
    }

    private static void locks() {
        Due.sentence("Takes a lock, or takes it for longer or shorter; hours: 1 to 48; returns the time when it ends");
        House x = new House();
        x.noArgument("no hours", Calls.LOCK, 0, 0, 0);
        x.noArgument("49 hours", Calls.LOCK, 0, 0, 49);
        Due.is("the most", x.lock(0, 0, 48), 48);
        Due.is("shorter", x.lock(0, 0, 1), 1);
        x.pass(1);
        Due.is("the shorter one counts", x.lockOf(0), NONE);
        Due.is("the least", x.lock(0, 0, 1), 2);
        Due.is("longer", x.lock(0, 0, 3), 4);
        x.pass(1);
        Due.is("the longer one counts", x.lockOf(0), 0);
        Due.is("from now on", x.lock(0, 0, 3), 5);
        for (int folder = 0; folder < 4; folder++) {
            x.share(folder, 2, NO_RIGHT, 9);
        }
        Due.is("of the last file, by one that has no rights", x.lock(2, 15, 1), 3);
        Due.is("whose", x.lockOf(15), 2);
        Due.is("not of another file", x.lockOf(14), NONE);
        Due.sentence("it ends by itself when these are over");
        for (int hours = 1; hours <= 48; hours += 47) {
            House y = new House();
            y.lock(1, 3, hours);
            if (hours > 1) {
                y.pass(hours - 1);
            }
            Due.is("in its last hour", y.lockOf(3), 1);
            y.noState("another one", Calls.LOCK, 0, 3, 1);
            y.noState("and another one", Calls.LOCK, 2, 3, 48);
            y.pass(1);
            Due.is("then nobody has it", y.lockOf(3), NONE);
            y.noState("nothing to break", Calls.BREAK_LOCK, 3);
            Due.is("another one takes it", y.lock(0, 3, 2), hours + 2);
            y.noState("then not the first", Calls.LOCK, 1, 3, 1);
        }
        Due.sentence("or is broken by another one; returns whose it was");
        House z = new House();
        z.noState("nobody's", Calls.BREAK_LOCK, 0);
        for (int machine = 0; machine < 3; machine++) {
            z.lock(machine, machine + 13, 5);
        }
        for (int machine = 0; machine < 3; machine++) {
            Due.is("of " + machine, z.breakLock(machine + 13), machine);
            Due.is("nobody", z.lockOf(machine + 13), NONE);
            z.noState("twice", Calls.BREAK_LOCK, machine + 13);
        }
        z.lock(2, 0, 5);
        z.pass(4);
        Due.is("in its last hour", z.breakLock(0), 2);
        Due.is("free", z.lock(1, 0, 1), 5);
        House w = new House();
        w.passTo(2000);
        Due.is("up to beyond all time", w.lock(0, 0, 48), 2048);
        Due.is("taken", w.lockOf(0), 0);
        Due.sentence("A machine may acknowledge a file, if nobody else has a lock on it: that hinders nothing else");
        House v = sixKnown(4);
        v.lock(2, 0, 9);
        v.put(0, 1, "33");
        v.lock(2, 1, 9);
        Due.is("a pull", v.pull(1), 1);
        Due.is("nor an opening", v.open(1, 0) + v.open(1, 1), 4);
        Due.is("nor an edit", v.move(1, 0, 3) + v.write(1, 1, "444") + v.erase(1, 1), 5);
    }

    private static void shares() {
        Due.sentence("at first all may write to all for good");
        House x = new House();
        for (int hour = 0; hour <= 2000; hour += 1000) {
            x.passTo(hour);
            for (int folder = 0; folder < 4; folder++) {
                for (int machine = 0; machine < 3; machine++) {
                    Due.is("in the hour " + hour, x.right(folder, machine), WRITE);
                }
            }
        }
        Due.sentence("hours: 1 to 2000: for how long; then there is no right");
        House y = new House();
        y.noArgument("no hours", Calls.SHARE, 0, 0, WRITE, 0);
        y.noArgument("2001 hours", Calls.SHARE, 0, 0, WRITE, 2001);
        y.noArgument("below NO_RIGHT", Calls.SHARE, 0, 0, NO_RIGHT - 1, 1);
        y.noArgument("above WRITE", Calls.SHARE, 0, 0, WRITE + 1, 1);
        Due.is("the least", y.share(0, 0, READ, 1), 0);
        Due.is("to read", y.right(0, 0), READ);
        y.share(1, 1, WRITE, 1);
        y.share(2, 2, NO_RIGHT, 1);
        y.share(3, 2, WRITE, 2);
        Due.is("to write", y.right(1, 1), WRITE);
        Due.is("no right", y.right(2, 2), NO_RIGHT);
        y.pass(1);
        Due.is("then none, of reading", y.right(0, 0), NO_RIGHT);
        Due.is("of writing", y.right(1, 1), NO_RIGHT);
        Due.is("nor that of before", y.right(2, 2), NO_RIGHT);
        Due.is("in the last hour", y.right(3, 2), WRITE);
        y.pass(1);
        Due.is("that excluded", y.right(3, 2), NO_RIGHT);
        Due.is("other folders", y.right(1, 0) + y.right(2, 0) + y.right(3, 0), 3 * WRITE);
        Due.is("other machines", y.right(0, 1) + y.right(0, 2) + y.right(3, 0) + y.right(3, 1), 4 * WRITE);
        House z = new House();
        z.share(3, 0, READ, 2000);
        z.share(3, 1, READ, 1999);
        z.passTo(1998);
        Due.is("before", z.right(3, 1), READ);
        z.pass(1);
        Due.is("1999 hours", z.right(3, 1), NO_RIGHT);
        Due.is("before", z.right(3, 0), READ);
        z.pass(1);
        Due.is("the most", z.right(3, 0), NO_RIGHT);
        z.share(3, 0, WRITE, 2000);
        Due.is("up to beyond all time", z.right(3, 0), WRITE);
        Due.sentence("in place of what was so before");
        House w = new House();
        w.share(0, 0, READ, 9);
        w.share(0, 0, WRITE, 1);
        Due.is("more, for shorter", w.right(0, 0), WRITE);
        w.pass(1);
        Due.is("not what was before", w.right(0, 0), NO_RIGHT);
        w.share(0, 0, WRITE, 1);
        w.share(0, 0, READ, 3);
        w.pass(2);
        Due.is("less, for longer", w.right(0, 0), READ);
        w.share(0, 0, NO_RIGHT, 9);
        Due.is("none", w.right(0, 0), NO_RIGHT);
    }

    public static void main(String[] args) {
        pulls();
        pullsChanged();
        pullRights();
        pullContents();
        opens();
        openRights();
        openPieces();
        openRoom();
        putAway();
        openedLongestAgo();
        ofTwoTies();
        locks();
        shares();
        Due.end("FetchEdgesTest");
    }
}
