/** The edges of the document's words on machines: edits, events, scans, room, pins, and what is asked of machines. */
public final class MachinesEdgesTest {
    private static final int NONE = KeeperHouse.NONE;
    private static final int ABSENT = KeeperHouse.ABSENT;
    private static final int KNOWN = KeeperHouse.KNOWN;
    private static final int THERE = KeeperHouse.THERE;
    private static final int READ = KeeperHouse.READ;
    private static final String NO_FILES = "0000000000000000";

    private static void newObject() {
        Due.sentence("Makes a house without versions, and machines without files");
        House x = new House();
        Due.is("versions", x.versions(), 0);
        Due.is("time", x.time(), 0);
        Due.is("lost", x.lost(), 0);
        for (int what = 0; what < 8; what++) {
            Due.is("count " + what, x.count(what), 0);
        }
        for (int machine = 0; machine < 3; machine++) {
            Due.is("states", x.states(machine), NO_FILES);
            Due.is("noted", x.noted(machine), 0);
            Due.is("taken", x.taken(machine), 0);
            Due.is("nothing to scan", x.scan(machine), 0);
            Due.is("nothing to lose", x.lose(machine), 0);
            Due.is("nothing to upload", x.upload(machine, 100), 0);
            Due.is("nothing to pull", x.pull(machine), 0);
            for (int file = 0; file < 16; file++) {
                Due.is("seen", x.seen(machine, file), NONE);
                Due.is("folder", x.folderOf(machine, file), NONE);
                Due.is("changed", x.isChanged(machine, file), false);
                Due.is("pinned", x.pin(machine, file, false), 0);
            }
        }
        Due.is("nothing to thin", x.thin(), 0);
        Due.is("nothing to scrub", x.scrub(), 0);
        Due.is("nothing to follow", x.follow(120), 0);
        Due.is("nothing to release", x.release(), 0);
        Due.is("nothing to restore", x.restore(0, 0), NONE);
        Due.is("nor in a folder", x.restoreFolder(0, 0), 0);
    }

    private static void drafts() {
        Due.sentence("draft: Returns how many are drafted then; IllegalStateException if there are 12");
        House x = new House();
        for (int i = 1; i <= 12; i++) {
            Due.is("drafts " + i, x.draft(i % 10), i);
        }
        x.noState("12", Calls.DRAFT, 0);
        x.noArgument("the argument is looked at first", Calls.DRAFT, 10);
        x.noIndex("a refused write keeps them", Calls.WRITE, 0, 16);
        Due.is("all twelve", x.write(0, 0), 12);
        Due.is("in their order", x.content(0, 0), "123456789012");
        Due.sentence("The draft is empty then");
        x.noState("empty", Calls.WRITE, 0, 0);
        Due.is("from one on again", x.draft(7), 1);
        Due.is("it is one for all machines", x.write(2, 0), 1);
        Due.is("without the old numbers", x.content(2, 0), "7");
        Due.is("an old content does not change", x.content(0, 0), "123456789012");
        x.draft(1);
        x.erase(0, 0);
        Due.is("an erased file", x.draft(2), 2);
        x.pass(1);
        x.upload(2, 100);
        Due.is("and hours leave the draft", x.write(0, 0), 2);
    }

    private static void writes() {
        Due.sentence("Writes the draft into a file, which is there then; a new one is in the folder of its number");
        House x = new House();
        x.write(0, 7, "1");
        Due.is("there", x.stateOf(0, 7), THERE);
        Due.is("in 3", x.folderOf(0, 7), 3);
        x.move(0, 7, 0);
        x.write(0, 7, "2");
        Due.is("one that is there stays in its folder", x.folderOf(0, 7), 0);
        x.upload(0, 9);
        x.pull(1);
        x.write(1, 7, "3");
        Due.is("one that is known only stays in its folder", x.folderOf(1, 7), 0);
        Due.is("and is there", x.stateOf(1, 7), THERE);
        Due.is("it has seen what it had", x.seen(1, 7), 0);
        x.erase(0, 7);
        x.write(0, 7, "2");
        Due.is("an erased one is new", x.folderOf(0, 7), 3);
        Due.is("so that it is changed", x.isChanged(0, 7), true);
        x.write(2, 7, "2");
        Due.is("one that others have is new", x.folderOf(2, 7), 3);
        Due.is("it has seen none", x.seen(2, 7), NONE);
    }

    private static void moves() {
        Due.sentence("move: Returns the folder before; IllegalStateException if it is not THERE at the machine");
        House x = new House();
        x.noState("absent", Calls.MOVE, 0, 5, 0);
        x.put(0, 5, "1");
        x.pull(1);
        x.noState("known only", Calls.MOVE, 1, 5, 0);
        x.noState("known only, to its own folder", Calls.MOVE, 1, 5, 1);
        x.noState("there at another machine", Calls.MOVE, 2, 5, 1);
        for (int folder = 0; folder < 4; folder++) {
            Due.is("before " + folder, x.move(0, 5, folder), folder == 0 ? 1 : folder - 1);
            Due.is("then", x.folderOf(0, 5), folder);
        }
        x.move(0, 5, 1);
        x.upload(0, 0);
        Due.is("no version, as it is where it was", x.versions(), 1);
        x.erase(0, 5);
        x.noState("erased", Calls.MOVE, 0, 5, 0);
        x.open(1, 5);
        Due.is("an opened one", x.move(1, 5, 3), 1);
    }

    private static void erases() {
        Due.sentence("erase: Returns what it was: KNOWN or THERE; IllegalStateException if it is ABSENT");
        House x = new House();
        x.noState("never there", Calls.ERASE, 0, 0);
        x.put(0, 0, "12");
        x.noState("absent at this machine", Calls.ERASE, 1, 0);
        x.pull(1);
        Due.is("known", x.erase(1, 0), KNOWN);
        Due.is("there", x.erase(0, 0), THERE);
        x.noState("erased", Calls.ERASE, 0, 0);
        x.noState("erased when it was known", Calls.ERASE, 1, 0);
        Due.is("absent", x.stateOf(0, 0), ABSENT);
        Due.is("seen still", x.seen(0, 0), 0);
        x.write(2, 0, "5");
        Due.is("written only", x.erase(2, 0), THERE);
        x.upload(0, 0);
        x.pull(1);
        x.noState("a deletion that was pulled", Calls.ERASE, 1, 0);
    }

    private static void changed(String what, House x, boolean due) {
        Due.is(what, x.isChanged(0, 6), due);
        x.pass(1);
        Due.is(what + ", in the next hour", x.isChanged(0, 6), due);
        Due.is(what + ", scanned", x.scan(0), due ? 1 : 0);
        Due.is(what + ", uploaded", x.upload(0, 100), due ? 1 : 0);
    }

    /** A file 6 in folder 2 that is as its version, its events coming too late to note it. */
    private static House seenFile() {
        House x = new House();
        x.put(0, 6, "1203");
        x.late(0, 50);
        return x;
    }

    private static House rewritten(String numbers) {
        House x = seenFile();
        x.write(0, 6, numbers);
        return x;
    }

    private static void changes() {
        Due.sentence("A file is changed, if it is not as the version that was seen: of another content");
        changed("not at all", seenFile(), false);
        changed("the same content", rewritten("1203"), false);
        changed("another last number", rewritten("1204"), true);
        changed("another first number", rewritten("2203"), true);
        changed("another in the midst", rewritten("1213"), true);
        changed("one number less", rewritten("120"), true);
        changed("one number more", rewritten("12030"), true);
        changed("the same numbers in another order", rewritten("1230"), true);
        Due.sentence("A file is changed, if it is not as the version that was seen: or folder");
        for (int folder = 0; folder < 4; folder++) {
            House x = seenFile();
            x.move(0, 6, folder);
            changed("moved to " + folder, x, folder != 2);
        }
        House x = seenFile();
        x.move(0, 6, 1);
        x.move(0, 6, 2);
        changed("moved and back", x, false);
        Due.sentence("A file is changed, if it is not as the version that was seen: there or not");
        House y = seenFile();
        y.erase(0, 6);
        changed("erased", y, true);
        changed("with a deletion seen", y, false);
        y.write(0, 6, "1203");
        changed("written behind a deletion", y, true);
        House z = seenFile();
        z.erase(0, 6);
        z.write(0, 6, "1203");
        changed("erased and written alike", z, false);
        House w = seenFile();
        w.move(0, 6, 3);
        w.scan(0);
        w.upload(0, 0);
        w.erase(0, 6);
        w.write(0, 6, "1203");
        Due.is("written anew, and so in another folder", w.isChanged(0, 6), true);
        Due.sentence("A file is changed, if it is not as the version that was seen: none");
        House v = new House();
        v.late(0, 50);
        changed("never there", v, false);
        v.write(0, 6, "0");
        Due.is("there", v.isChanged(0, 6), true);
        v.erase(0, 6);
        changed("not there again", v, false);
        v.put(1, 6, "0");
        Due.is("that another machine has it, is nothing", v.isChanged(0, 6), false);
        v.pull(0);
        changed("known only", v, false);
        v.open(0, 6);
        changed("opened", v, false);
    }

    private static void eventsAtOnce() {
        Due.sentence("Each edit makes an event, that comes some hours later, 0 at first, which is at once");
        House x = new House();
        x.write(0, 3, "1");
        Due.is("a write", x.noted(0), 1);
        x.upload(0, 9);
        x.move(0, 3, 0);
        Due.is("a move", x.noted(0), 1);
        x.upload(0, 0);
        x.erase(0, 3);
        Due.is("an erasing", x.noted(0), 1);
        x.upload(0, 0);
        Due.is("three versions", x.versions(), 3);
        Due.is("not at others", x.noted(1) + x.noted(2), 0);
        Due.is("none is on its way", x.lose(0), 0);
        x.write(0, 3, "1");
        x.move(0, 3, 3);
        Due.is("a move to where it is", x.noted(0), 1);
        x.upload(0, 9);
        x.move(0, 3, 3);
        Due.is("notes it, too", x.noted(0), 1);
        Due.is("though there is no version", x.upload(0, 9), 0);
        Due.is("then no more", x.noted(0), 0);
        House w = new House();
        w.late(0, 50);
        w.write(0, 3, "1");
        w.lose(0);
        w.late(0, 0);
        w.erase(0, 3);
        Due.is("an erasing of what was never in the house, too", w.noted(0), 1);
        Due.is("though there is no version", w.upload(0, 9), 0);
        Due.sentence("the file is noted to be uploaded, behind others, if it is not already");
        House y = new House();
        y.write(0, 9, "1");
        y.write(0, 2, "2");
        y.write(0, 9, "3");
        y.write(0, 0, "4");
        y.move(0, 2, 3);
        Due.is("three", y.noted(0), 3);
        y.upload(0, 100);
        Due.is("each at its first place", y.filesFrom(0), "9 2 0");
        y.write(0, 0, "5");
        y.write(0, 9, "6");
        y.upload(0, 0);
        y.write(0, 0, "7");
        y.upload(0, 100);
        Due.is("the same again", y.filesFrom(3), "0 9");
        House z = new House();
        for (int file = 15; file >= 0; file--) {
            z.write(0, file, "1");
        }
        Due.is("all files", z.noted(0), 16);
        z.write(0, 15, "1");
        z.write(0, 0, "1");
        Due.is("no more than all", z.noted(0), 16);
        z.upload(0, 1);
        Due.is("in their order", z.filesFrom(0), "15 14 13 12 11 10 9 8 7 6 5 4 3 2 1 0");
        Due.is("none", z.noted(0), 0);
    }

    private static void comesAfter(int hours) {
        House x = new House();
        Due.is("at first", x.late(1, hours), 0);
        x.write(1, 0, "1");
        for (int hour = 1; hour < hours; hour++) {
            x.pass(1);
            Due.is("not after " + hour + " of " + hours, x.noted(1), 0);
        }
        x.pass(1);
        Due.is("after " + hours, x.noted(1), 1);
        x.upload(1, 9);
        x.passAll(200);
        Due.is("only once", x.noted(1), 0);
        House y = new House();
        y.late(1, hours);
        y.write(1, 0, "1");
        y.pass(100);
        Due.is("in one go", y.noted(1), 1);
        Due.is("it has come", y.lose(1), 0);
    }

    private static void lateEvents() {
        Due.sentence("that comes some hours later, as the machine tells");
        comesAfter(1);
        comesAfter(2);
        comesAfter(49);
        comesAfter(50);
        Due.sentence("late: Returns the hours before; hours: 0 to 50; those on their way stay as they are");
        House x = new House();
        Due.is("0 at first", x.late(0, 50), 0);
        x.noArgument("51", Calls.LATE, 0, 51);
        x.noArgument("-1", Calls.LATE, 0, -1);
        Due.is("the most", x.late(0, 5), 50);
        x.write(0, 8, "1");
        Due.is("before", x.late(0, 0), 5);
        Due.is("it has not come by that", x.noted(0), 0);
        x.write(0, 7, "2");
        Due.is("others come at once", x.noted(0), 1);
        x.late(0, 50);
        x.pass(4);
        Due.is("not sooner", x.noted(0), 1);
        x.pass(1);
        Due.is("nor later", x.noted(0), 2);
        Due.is("of each machine", x.late(1, 50) + x.late(2, 50), 0);
        Due.is("the last one", x.late(0, 0), 50);
        Due.is("the least", x.late(0, 0), 0);
        Due.sentence("when it comes, the file is noted behind others: by the hours in which they come");
        House y = new House();
        y.late(0, 3);
        y.write(0, 1, "1");
        y.late(0, 2);
        y.write(0, 2, "2");
        y.write(0, 3, "3");
        y.late(0, 1);
        y.write(0, 4, "4");
        y.late(0, 3);
        y.write(0, 5, "5");
        y.late(0, 0);
        y.write(0, 6, "6");
        y.pass(5);
        y.upload(0, 100);
        Due.is("at once, then after 1, 2, 2, 3 and 3 hours", y.filesFrom(0), "6 4 2 3 1 5");
        House z = new House();
        z.late(0, 2);
        z.write(0, 1, "1");
        z.pass(1);
        z.late(0, 1);
        z.write(0, 0, "2");
        z.pass(1);
        z.upload(0, 100);
        Due.is("of one hour the older one first", z.filesFrom(0), "1 0");
        House v = new House();
        for (int hours = 1; hours <= 4; hours++) {
            v.late(0, hours);
            v.write(0, 10 + hours, "1");
            v.late(1, hours * 10);
            v.write(1, hours, "2");
        }
        for (int hours = 1; hours <= 4; hours++) {
            v.pass(1);
            Due.is("one in each hour", v.noted(0), 1);
            v.upload(0, 9);
            Due.is("those that come later are on their way still", v.noted(1), 0);
        }
        Due.is("each once", v.filesFrom(0), "11 12 13 14");
        v.pass(16);
        Due.is("after 10 and 20 hours", v.noted(1), 2);
        v.pass(19);
        Due.is("not yet after 39", v.noted(1), 3);
        v.pass(1);
        Due.is("after 40", v.noted(1), 4);
        Due.is("none is on its way", v.lose(0) + v.lose(1), 0);
        House w = new House();
        w.late(0, 5);
        w.write(0, 1, "1");
        w.late(0, 9);
        w.move(0, 1, 2);
        w.pass(5);
        Due.is("noted by the first", w.upload(0, 9), 1);
        w.pass(4);
        Due.is("noted again by the second, though not changed", w.noted(0), 1);
        Due.is("which is no version", w.upload(0, 9), 0);
    }

    private static void losses() {
        Due.sentence("Events that have not come can be lost; returns how many");
        House x = new House();
        Due.is("none", x.lose(0), 0);
        x.write(0, 0, "1");
        Due.is("at once is come", x.lose(0), 0);
        Due.is("and stays noted", x.noted(0), 1);
        x.late(0, 2);
        x.write(0, 1, "1");
        x.pass(2);
        Due.is("one that came in this very hour", x.lose(0), 0);
        Due.is("is noted", x.noted(0), 2);
        x.write(0, 2, "1");
        x.pass(1);
        Due.is("one that comes in the next hour", x.lose(0), 1);
        x.pass(1);
        Due.is("does not", x.noted(0), 2);
        x.late(0, 50);
        x.late(1, 50);
        x.late(2, 50);
        x.write(1, 3, "1");
        x.write(2, 3, "1");
        for (int turn = 0; turn < 7; turn++) {
            x.move(0, 0, turn % 4);
            x.move(2, 3, turn % 4);
        }
        Due.is("events, of one file too", x.lose(0), 7);
        Due.is("all of them", x.lose(0), 0);
        Due.is("another machine's are others", x.lose(2), 8);
        x.pass(50);
        Due.is("come", x.noted(1), 1);
        Due.is("lost", x.noted(2), 0);
        Due.is("a scan finds what they would have told", x.scan(2), 1);
    }

    private static void manyEvents() {
        Due.sentence("An object is used for at most 512 calls: as many events as they can make");
        House x = new House();
        x.late(1, 50);
        x.write(1, 4, "1");
        for (int made = 1; made < 508; made++) {
            x.move(1, 4, made % 4);
        }
        Due.is("of the 512th call", x.lose(1), 508);
        House y = new House();
        y.late(1, 50);
        y.write(1, 4, "1");
        for (int made = 1; made < 507; made++) {
            y.move(1, 4, made % 4);
        }
        y.pass(50);
        Due.is("they note one file", y.noted(1), 1);
    }

    private static void scans() {
        Due.sentence("A scan notes all files that are changed, and not noted, by rising numbers");
        House x = new House();
        Due.is("none", x.scan(0), 0);
        x.late(0, 50);
        for (int file = 15; file >= 0; file--) {
            x.write(0, file, "1");
        }
        Due.is("all", x.scan(0), 16);
        Due.is("noted", x.noted(0), 16);
        Due.is("none is left", x.scan(0), 0);
        x.upload(0, 100);
        Due.is("by rising numbers", x.filesFrom(0), "0 1 2 3 4 5 6 7 8 9 10 11 12 13 14 15");
        Due.is("none is changed", x.scan(0), 0);
        x.pass(50);
        Due.is("the events come all the same", x.noted(0), 16);
        Due.is("and are for nothing", x.upload(0, 100), 0);
        House y = new House();
        y.write(0, 9, "1");
        y.late(0, 50);
        y.write(0, 12, "1");
        y.write(0, 3, "1");
        y.write(1, 4, "1");
        Due.is("not those that are noted", y.scan(0), 2);
        Due.is("of this machine", y.noted(0), 3);
        y.upload(0, 100);
        Due.is("behind those", y.filesFrom(0), "9 3 12");
        y.erase(0, 9);
        y.move(0, 12, 1);
        y.write(0, 3, "1");
        y.pull(1);
        Due.is("erased, moved; not what is as it was, nor known", y.scan(0) * 10 + y.scan(1), 20);
        Due.is("the last and the first file", scanOf(15) * 10 + scanOf(0), 11);
    }

    private static int scanOf(int file) {
        House x = new House();
        x.late(2, 1);
        x.write(2, file, "1");
        return x.scan(2);
    }

    /** Files 0 to 8 of a hundred numbers and file 9 of one are known at machine 1, and the former are opened. */
    private static House hundredTaken() {
        House x = new House();
        for (int file = 0; file < 8; file++) {
            x.write(0, file, "111111111111");
        }
        x.write(0, 8, "1111");
        x.write(0, 9, "1");
        x.upload(0, 100);
        x.pull(1);
        for (int file = 0; file < 9; file++) {
            x.open(1, file);
        }
        return x;
    }

    private static void rooms() {
        Due.sentence("A machine has room for contents of a total length of 100 at first");
        House x = hundredTaken();
        Due.is("100", x.taken(1), 100);
        Due.is("without putting away", x.states(1), "2222222221000000");
        Due.is("the 101st", x.open(1, 9), 1);
        Due.is("has no room", x.states(1), "1222222222000000");
        Due.is("but takes that of another", x.taken(1), 89);
        House y = hundredTaken();
        y.room(1, 101);
        Due.is("with room for 101", y.open(1, 9), 1);
        Due.is("all are there", y.taken(1), 101);
        House z = hundredTaken();
        Due.is("100 at first", z.room(1, 100), 100);
        for (int file = 0; file < 9; file++) {
            z.pin(1, file, true);
        }
        z.noState("no room for the 101st", Calls.OPEN, 1, 9);
        z.room(1, 101);
        Due.is("room for it", z.open(1, 9), 1);
        Due.sentence("room: Returns the room before; 0 to 200; nothing is put away by that");
        House w = hundredTaken();
        Due.is("the least", w.room(1, 0), 100);
        Due.is("nothing is put away", w.taken(1), 100);
        Due.is("the most", w.room(1, 200), 0);
        w.noArgument("201", Calls.ROOM, 1, 201);
        w.noArgument("-1", Calls.ROOM, 1, -1);
        Due.is("before", w.room(1, 7), 200);
        Due.is("of each machine", w.room(0, 7) * 1000 + w.room(2, 7), 100100);
        Due.is("nothing is put away there either", w.taken(0), 101);
        Due.sentence("what it writes itself does not ask for room");
        House v = new House();
        v.room(0, 0);
        for (int file = 0; file < 16; file++) {
            Due.is("written", v.write(0, file, "123456789123"), 12);
        }
        Due.is("all of it", v.taken(0), 192);
        Due.is("nothing is put away when it is acknowledged", v.upload(0, 100), 16);
        Due.is("all are there", v.states(0), "2222222222222222");
        v.write(0, 3, "9");
        Due.is("nor when it is written again", v.states(0), "2222222222222222");
        House u = hundredTaken();
        u.write(1, 9, "222222222222");
        Due.is("nor are others, that could be", u.states(1), "2222222222000000");
        Due.is("more is taken than there is room", u.taken(1), 112);
    }

    private static void known() {
        Due.sentence("A file can be known only, without its content; its length counts 0 then");
        House x = new House();
        x.put(0, 5, "1203");
        x.put(0, 6, "99");
        x.pull(1);
        Due.is("known", x.stateOf(1, 5), KNOWN);
        Due.is("in its folder", x.folderOf(1, 5), 1);
        Due.is("no number", x.numberAt(1, 5, 0), NONE);
        Due.is("takes none", x.taken(1), 0);
        Due.is("as the version that was seen", x.isChanged(1, 5), false);
        x.open(1, 5);
        Due.is("then it takes its length", x.taken(1), 4);
        x.room(1, 2);
        x.open(1, 6);
        Due.is("put away it takes none", x.taken(1), 2);
        Due.is("and is known only", x.stateOf(1, 5), KNOWN);
        Due.is("without numbers", x.content(1, 5), "");
        x.erase(1, 6);
        Due.is("an erased one takes none", x.taken(1), 0);
        Due.sentence("seen: a version, or none, at first; its number, also if it was dropped");
        Due.is("none", x.seen(2, 5), NONE);
        Due.is("the first one is 0", x.seen(1, 5), 0);
        Due.is("the second", x.seen(0, 6), 1);
        x.put(0, 5, "7");
        x.pass(24);
        Due.is("dropped", x.thin(), 1);
        Due.is("seen all the same", x.seen(1, 5), 0);
        Due.is("not changed", x.isChanged(1, 5), false);
        x.write(1, 5, "1203");
        Due.is("as the dropped one", x.isChanged(1, 5), false);
        x.write(1, 5, "7");
        Due.is("not as the dropped one", x.isChanged(1, 5), true);
    }

    private static void numbers() {
        Due.sentence("numberAt: place from 0; NONE if it is not THERE, or has not so many");
        House x = new House();
        x.write(0, 0, "123456789012");
        x.write(0, 1, "0");
        Due.is("the first", x.numberAt(0, 0, 0), 1);
        Due.is("the twelfth", x.numberAt(0, 0, 11), 2);
        Due.is("behind it", x.numberAt(0, 0, 12), NONE);
        Due.is("far behind it", x.numberAt(0, 0, Integer.MAX_VALUE), NONE);
        Due.is("a 0", x.numberAt(0, 1, 0), 0);
        Due.is("behind the only one", x.numberAt(0, 1, 1), NONE);
        Due.is("behind it", x.numberAt(0, 1, 11), NONE);
        x.noIndex("before the first", Calls.NUMBER_AT, 0, 0, -1);
        x.noIndex("far before it", Calls.NUMBER_AT, 0, 0, Integer.MIN_VALUE);
        x.noIndex("before the first of what is absent", Calls.NUMBER_AT, 0, 2, -1);
        Due.is("absent", x.numberAt(0, 2, 0), NONE);
        x.write(0, 0, "9");
        Due.is("a shorter content", x.numberAt(0, 0, 0), 9);
        Due.is("nothing is left of the longer one", x.numberAt(0, 0, 1), NONE);
        x.erase(0, 0);
        Due.is("erased", x.numberAt(0, 0, 0), NONE);
    }

    private static void pins() {
        Due.sentence("Pins a file at a machine, or no more; returns whether it was");
        House x = new House();
        for (int machine = 0; machine < 3; machine++) {
            for (int file = 0; file < 16; file++) {
                Due.is("not at first", x.pin(machine, file, true), 0);
            }
        }
        Due.is("pinned", x.pin(0, 0, true), 1);
        Due.is("again", x.pin(0, 0, false), 1);
        Due.is("no more", x.pin(0, 0, false), 0);
        Due.is("another file", x.pin(0, 1, false), 1);
        Due.is("another machine", x.pin(2, 0, false), 1);
        Due.is("the last file", x.pin(2, 15, false), 1);
        x.write(1, 3, "1");
        x.upload(1, 9);
        x.erase(1, 3);
        Due.is("a pin stays with an erased file", x.pin(1, 3, true), 1);
        Due.is("it is no change", x.isChanged(1, 4), false);
        x.write(1, 3, "1");
        x.upload(1, 9);
        Due.is("and with one that is written again", x.pin(1, 3, true), 1);
        x.pull(0);
        x.put(0, 3, "2");
        Due.is("or pulled", x.pull(1), 1);
        Due.is("it is pinned still", x.pin(1, 3, true), 1);
        x.delete(0, 3);
        Due.is("or gone by a pull", x.pull(1), 1);
        Due.is("it is pinned still, too", x.pin(1, 3, true), 1);
        x.share(0, 1, READ, 1);
        Due.is("and needs no right", x.pin(1, 4, true), 1);
    }

    public static void main(String[] args) {
        newObject();
        drafts();
        writes();
        moves();
        erases();
        changes();
        eventsAtOnce();
        lateEvents();
        losses();
        manyEvents();
        scans();
        rooms();
        known();
        numbers();
        pins();
        Due.end("MachinesEdgesTest");
    }
}
