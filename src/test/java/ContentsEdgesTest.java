/** The edges of the document's words on files, contents, pieces and packs, and on time and versions. */
public final class ContentsEdgesTest {
    private static final int NONE = KeeperHouse.NONE;
    private static final int THERE = KeeperHouse.THERE;

    private static void filesAndFolders() {
        Due.sentence("There are the files 0 to 15 and the folders 0 to 3");
        House x = new House();
        Due.is("the first file", x.write(0, 0, "1"), 1);
        Due.is("the last file", x.write(2, 15, "2"), 1);
        Due.is("the last folder", x.move(0, 0, 3), 0);
        Due.is("the first folder", x.move(2, 15, 0), 3);
        x.draft(1);
        x.noIndex("before the first file", Calls.WRITE, 0, -1);
        x.noIndex("behind the last file", Calls.WRITE, 0, 16);
        x.noIndex("before the first folder", Calls.MOVE, 0, 0, -1);
        x.noIndex("behind the last folder", Calls.MOVE, 0, 0, 4);
        Due.sentence("a file is in the folder of its number by 4 at first, that is the remainder");
        House y = new House();
        int[] folders = {0, 1, 2, 3, 0, 1, 2, 3, 0, 1, 2, 3, 0, 1, 2, 3};
        for (int file = 0; file < 16; file++) {
            y.write(1, file, "5");
            Due.is("file " + file, y.folderOf(1, file), folders[file]);
        }
        Due.is("all are acknowledged", y.upload(1, 100), 16);
        for (int file = 0; file < 16; file++) {
            Due.is("file " + file + " in the house", y.version(file, 3), folders[file]);
        }
    }

    private static void contentLengths() {
        Due.sentence("A content is a row of 1 to 12 numbers from 0 to 9; its length is how many");
        House x = new House();
        x.noState("a content of no numbers", Calls.WRITE, 0, 0);
        Due.is("the least number", x.draft(0), 1);
        Due.is("a content of one number", x.write(0, 0), 1);
        Due.is("is there", x.stateOf(0, 0), THERE);
        Due.is("with it", x.content(0, 0), "0");
        Due.is("length 1", x.taken(0), 1);
        for (int i = 1; i <= 12; i++) {
            Due.is("the greatest number, " + i + " times", x.draft(9), i);
        }
        x.noState("a thirteenth number", Calls.DRAFT, 9);
        x.noState("nor a 0", Calls.DRAFT, 0);
        Due.is("a content of 12 numbers", x.write(0, 1), 12);
        Due.is("with them", x.content(0, 1), "999999999999");
        Due.is("length 12", x.taken(0), 13);
        x.noState("the draft is empty then", Calls.WRITE, 0, 1);
        x.noArgument("below 0", Calls.DRAFT, -1);
        x.noArgument("above 9", Calls.DRAFT, 10);
        x.upload(0, 100);
        Due.is("of the first version", x.version(0, 4), 1);
        Due.is("of the second version", x.version(1, 4), 12);
        Due.is("all ten numbers", x.write(1, 3, "0123456789"), 10);
        Due.is("are told", x.content(1, 3), "0123456789");
    }

    /** Uploads the contents one behind the other, and looks how many pieces came with each. */
    private static void comes(String what, String[] contents, int[] pieces) {
        House x = new House();
        int before = 0;
        for (int i = 0; i < contents.length; i++) {
            Due.is(what + ": " + contents[i] + " is acknowledged", x.put(i % 3, i, contents[i]), 1);
            int uploaded = x.count(7);
            Due.is(what + ": new pieces of " + contents[i], uploaded - before, pieces[i]);
            before = uploaded;
        }
        Due.is(what + ": the house has them", x.count(0), before);
    }

    private static void comes(String content, int pieces) {
        comes("alone", new String[] {content}, new int[] {pieces});
    }

    private static void cuts() {
        Due.sentence("a piece ends behind each 0");
        comes("0", 1);
        comes("10", 1);
        comes("01", 2);
        comes("1020", 2);
        comes("010203", 4);
        comes("12034", 2);
        comes("102030405060", 6);
        comes("the 0 is in the piece that it ends", new String[] {"120", "12", "0"}, new int[] {1, 1, 1});
        comes("what is behind it is a piece", new String[] {"12034", "34", "120", "034"}, new int[] {2, 0, 0, 1});
        comes("a 0 at the end ends no second piece", new String[] {"40", "4"}, new int[] {1, 1});
        Due.sentence("and when it has four numbers");
        comes("123", 1);
        comes("1234", 1);
        comes("12345", 2);
        comes("12345678", 2);
        comes("123456789", 3);
        comes("123456789123", 3);
        comes("four, and the rest", new String[] {"12345", "1234", "5"}, new int[] {2, 0, 0});
        comes("three are not cut off", new String[] {"1234", "123", "4"}, new int[] {1, 1, 1});
        comes("five are not one", new String[] {"1234", "12345", "5"}, new int[] {1, 1, 0});
        Due.sentence("a 0 as the fourth number ends one piece, not two");
        comes("1230", 1);
        comes("a piece of 4", new String[] {"1230", "123", "0"}, new int[] {1, 1, 1});
        comes("12301", 2);
        comes("behind four it is a piece of its own", new String[] {"12340", "1234", "0"}, new int[] {2, 0, 0});
        Due.sentence("the four numbers are counted from the last 0 on");
        comes("of 0 1234 5", new String[] {"012345", "1234", "0", "5"}, new int[] {3, 0, 0, 0});
        comes("of 10 2345", new String[] {"102345", "10", "2345"}, new int[] {2, 0, 0});
        comes("of 10 20 3456 7", new String[] {"10203456", "3456", "1020"}, new int[] {3, 0, 0});
    }

    private static void samePieces() {
        Due.sentence("Pieces that are the same are one in a house");
        comes("00", 1);
        comes("000000000000", 1);
        comes("11111", 2);
        comes("111111111111", 1);
        comes("12341234", 1);
        comes("101010101010", 1);
        comes("of other files", new String[] {"12345", "51234", "5"}, new int[] {2, 2, 0});
        comes("of other lengths", new String[] {"1", "11", "111", "1111", "11111"}, new int[] {1, 1, 1, 1, 0});
        comes("of another order", new String[] {"12", "21", "120", "210"}, new int[] {1, 1, 1, 1});
        comes("of the first number alone", new String[] {"1234", "2234"}, new int[] {1, 1});
        comes("of the last number alone", new String[] {"1234", "1235"}, new int[] {1, 1});
        comes("with a 0 or without", new String[] {"1", "10", "100", "01"}, new int[] {1, 1, 1, 0});
        comes("the greatest ones", new String[] {"9999", "999", "99", "9", "9990"}, new int[] {1, 1, 1, 1, 1});
    }

    private static void packs() {
        Due.sentence("each pack has up to 5");
        House x = new House();
        x.noIndex("no pack at first", Calls.DAMAGE, 0);
        Due.is("none", x.count(1), 0);
        String[] contents = {"1", "2", "3", "4", "5", "6", "7", "8", "9", "11", "22"};
        int[] packs = {1, 1, 1, 1, 1, 2, 2, 2, 2, 2, 3};
        for (int i = 0; i < contents.length; i++) {
            x.put(0, i, contents[i]);
            Due.is("with " + (i + 1) + " pieces", x.count(1), packs[i]);
        }
        x.noIndex("behind the last pack", Calls.DAMAGE, 3);
        x.noIndex("before the first pack", Calls.DAMAGE, -1);
        Due.is("one in the third", x.damage(2), 1);
        Due.is("five in the second", x.damage(1), 5);
        Due.is("five in the first", x.damage(0), 5);
        Due.sentence("in packs, in the order in which they came");
        House y = new House();
        y.put(0, 4, "102030");
        y.put(0, 1, "203040");
        y.put(0, 2, "506070");
        y.put(0, 3, "60");
        y.pull(1);
        y.damage(0);
        y.noState("10 20 30 came first", Calls.OPEN, 1, 4);
        y.noState("40 came fourth", Calls.OPEN, 1, 1);
        y.noState("50 came fifth", Calls.OPEN, 1, 2);
        Due.is("60 came sixth", y.open(1, 3), 2);
        Due.is("a content in two packs", y.count(1), 2);
    }

    /** File 0 keeps its first pieces, and with the hours loses those of the other contents. */
    private static House thinned(String first, String second, String kept) {
        House x = new House();
        x.put(0, 0, first);
        x.put(0, 0, second);
        x.put(0, 0, kept);
        x.pass(24);
        x.thin();
        return x;
    }

    private static void lastPack() {
        Due.sentence("a new piece is in the last pack, if that has fewer by then");
        House x = thinned("102030", "405060", "10204050");
        Due.is("30 and 60 are gone", x.count(0), 4);
        Due.is("two packs", x.count(1), 2);
        x.put(0, 1, "7080901");
        Due.is("no third", x.count(1), 2);
        Due.is("70, 80, 90 and 1 there", x.damage(1), 4);
        Due.is("none of them in the first, which has room", x.damage(0), 4);
        Due.sentence("a last pack, that was full, has fewer by then");
        House y = thinned("10203040", "5", "1020305");
        Due.is("four stay, one comes", y.count(0), 4);
        y.put(0, 1, "90");
        Due.is("one pack still", y.count(1), 1);
        Due.is("is full again", y.damage(0), 5);
        y.put(0, 1, "80");
        Due.is("otherwise in a new one", y.count(1), 2);
        Due.is("it alone", y.damage(1), 1);
        Due.sentence("a last pack of which nothing is left has fewer, too");
        House z = thinned("1020304050", "60", "10");
        Due.is("two packs", z.count(1), 2);
        Due.is("nothing in the last", z.damage(1), 0);
        z.put(0, 1, "70");
        Due.is("no third", z.count(1), 2);
        Due.is("it is there", z.damage(1), 1);
        Due.sentence("Packs are numbered from 0, also those of which nothing is left");
        House w = thinned("1020304050", "607080", "80");
        Due.is("one piece", w.count(0), 1);
        Due.is("two packs were begun", w.count(1), 2);
        Due.is("nothing in the first", w.damage(0), 0);
        Due.is("it is in the second", w.damage(1), 1);
        w.noIndex("no third", Calls.DAMAGE, 2);
        w.put(0, 1, "1222233334");
        w.put(0, 2, "5");
        Due.is("the second is filled, not the first", w.count(1), 2);
        w.put(0, 3, "6");
        Due.is("the third is begun, with room in the first", w.count(1), 3);
        Due.is("with one", w.damage(2), 1);
        Due.is("nothing in the first", w.damage(0), 0);
        House v = thinned("1020", "30", "4");
        v.delete(0, 0);
        v.passAll(240);
        v.thin();
        Due.is("no piece is left", v.count(0), 0);
        Due.is("one pack was begun", v.count(1), 1);
        Due.is("it is there", v.damage(0), 0);
        v.noIndex("no second one", Calls.DAMAGE, 1);
        v.put(0, 1, "10");
        Due.is("it is used again", v.count(1), 1);
    }

    private static void hours() {
        Due.sentence("Time is told in hours, 0 at first, at most 2000");
        House x = new House();
        Due.is("at first", x.time(), 0);
        x.noArgument("no hours", Calls.PASS, 0);
        x.noArgument("hours back", Calls.PASS, -1);
        x.noArgument("101 hours", Calls.PASS, 101);
        Due.is("the fewest", x.pass(1), 1);
        Due.is("the most", x.pass(100), 101);
        Due.is("then", x.time(), 101);
        x.passTo(1900);
        House y = new House();
        y.passTo(1901);
        Due.is("up to 2000", x.pass(100), 2000);
        y.noState("2001", Calls.PASS, 100);
        Due.is("1999", y.pass(98), 1999);
        y.noState("2001", Calls.PASS, 2);
        Due.is("2000", y.pass(1), 2000);
        y.noState("2001", Calls.PASS, 1);
        y.noState("2100", Calls.PASS, 100);
        Due.is("time", y.time(), 2000);
        y.put(0, 3, "7");
        Due.is("a version of the hour 2000", y.version(0, 1), 2000);
        Due.is("as of it", y.asOf(3, 2000), 0);
        Due.is("as of the hour before", y.asOf(3, 1999), NONE);
        y.noArgument("as of the hour 2001", Calls.AS_OF, 3, 2001);
        y.noArgument("restored as of the hour 2001", Calls.RESTORE, 3, 2001);
    }

    private static void numbersOfVersions() {
        Due.sentence("The house has versions, numbered from 0");
        House x = new House();
        x.noIndex("none", Calls.VERSION, 0, 0);
        Due.is("none", x.versions(), 0);
        Due.is("one", x.put(2, 14, "123"), 1);
        Due.is("one", x.versions(), 1);
        int[] told = {14, 0, 2, 2, 3, 1};
        for (int what = 0; what < told.length; what++) {
            Due.is("of the first " + what, x.version(0, what), told[what]);
        }
        x.noIndex("a second", Calls.VERSION, 1, 0);
        x.noIndex("behind the last, asked wrongly", Calls.VERSION, 1, 6);
        x.noArgument("the last, asked beyond", Calls.VERSION, 0, 6);
        x.noArgument("the last, asked before", Calls.VERSION, 0, -1);
        Due.sentence("of a file, of the time, by a machine, with a content, or as a deletion, and with a folder");
        x.pass(5);
        x.delete(2, 14);
        int[] deletion = {14, 5, 2, NONE, 0, 1};
        for (int what = 0; what < deletion.length; what++) {
            Due.is("of the deletion " + what, x.version(1, what), deletion[what]);
        }
        x.pass(1);
        x.restore(14, 0);
        int[] restored = {14, 6, NONE, 2, 3, 1};
        for (int what = 0; what < restored.length; what++) {
            Due.is("of the restored one " + what, x.version(2, what), restored[what]);
        }
        x.pass(24);
        Due.is("dropped", x.thin(), 2);
        Due.is("a dropped one tells all the same", x.version(0, 4), 3);
        Due.is("its folder", x.version(0, 3), 2);
        Due.is("but it is not kept", x.version(0, 5), 0);
        Due.is("they were made", x.versions(), 3);
    }

    /** The versions 0 and 1, with contents that differ, and others in turn from then on. */
    private static House withVersions(int count) {
        House x = new House();
        x.put(0, 0, "1");
        x.pass(1);
        x.put(0, 0, "2");
        x.pass(1);
        for (int made = 2; made < count; made++) {
            Due.is("version " + made, x.restore(0, made % 2), made);
        }
        return x;
    }

    private static void manyVersions() {
        Due.sentence("at most 120; IllegalStateException if there are more than 100 versions: with 100 an upload");
        House x = withVersions(100);
        x.pull(0);
        for (int file = 0; file < 16; file++) {
            x.write(0, file, "33");
        }
        Due.is("makes as many as there are files", x.upload(0, 100), 16);
        Due.is("versions", x.versions(), 116);
        Due.is("the last one", x.version(115, 0), 15);
        x.noIndex("behind it", Calls.VERSION, 116, 0);
        x.noState("no more of them", Calls.UPLOAD, 0, 100);
        x.noState("nor with nothing noted", Calls.UPLOAD, 1, 0);
        x.noState("nor a restored one", Calls.RESTORE, 0, 0);
        x.noState("nor where there is nothing to restore", Calls.RESTORE, 7, 0);
        x.noState("nor a folder", Calls.RESTORE_FOLDER, 0, 0);
        x.noState("nor an empty one", Calls.RESTORE_FOLDER, 3, 0);
        Due.is("all are entries", x.count(4), 116);
        Due.is("which the second house gets at once", x.follow(120), 116);
        Due.sentence("with 100 versions a restored file");
        House y = withVersions(100);
        Due.is("is one more", y.restore(0, 0), 100);
        y.noState("with 101 none", Calls.RESTORE, 0, 1);
        y.noState("nor an upload", Calls.UPLOAD, 0, 0);
        y.noState("nor a folder", Calls.RESTORE_FOLDER, 0, 1);
        Due.sentence("versions that were dropped count, too");
        y.passAll(300);
        Due.is("dropped", y.thin(), 100);
        y.noState("an upload", Calls.UPLOAD, 0, 100);
        y.noState("a restored one", Calls.RESTORE, 0, 0);
        y.noState("a restored folder", Calls.RESTORE_FOLDER, 0, 0);
    }

    private static void manyRestored() {
        Due.sentence("with 100 versions a restored folder");
        House x = new House();
        for (int file = 0; file < 16; file++) {
            x.write(0, file, "1");
            x.move(0, file, 2);
        }
        x.upload(0, 100);
        x.pass(1);
        for (int file = 0; file < 16; file++) {
            x.write(0, file, "2");
        }
        x.upload(0, 100);
        x.pass(1);
        Due.is("all files", x.restoreFolder(2, 0), 16);
        Due.is("again", x.restoreFolder(2, 1), 16);
        Due.is("and again", x.restoreFolder(2, 0), 16);
        Due.is("80", x.versions(), 80);
        for (int made = 80; made < 100; made += 2) {
            x.restore(0, 1);
            x.restore(0, 0);
        }
        Due.is("restores all files", x.restoreFolder(2, 1), 16);
        Due.is("116", x.versions(), 116);
        Due.is("the last one", x.version(115, 0), 15);
        x.noState("then none", Calls.RESTORE_FOLDER, 2, 0);
    }

    private static void asOf() {
        Due.sentence("As of a time, the version of a file is the last one of it of that time or earlier that is kept");
        House x = new House();
        Due.is("as of 0, of none", x.asOf(3, 0), NONE);
        x.noArgument("of the next hour", Calls.AS_OF, 3, 1);
        x.pass(4);
        x.put(0, 3, "1");
        Due.is("as of its hour", x.asOf(3, 4), 0);
        Due.is("of the hour before", x.asOf(3, 3), NONE);
        x.put(0, 3, "2");
        Due.is("of that time the last one", x.asOf(3, 4), 1);
        x.put(0, 2, "2");
        Due.is("not one of another file", x.asOf(3, 4), 1);
        x.pass(2);
        Due.is("or earlier", x.asOf(3, 6), 1);
        x.delete(0, 3);
        Due.is("a deletion", x.asOf(3, 6), 3);
        Due.is("up to it", x.asOf(3, 5), 1);
        x.pass(1);
        x.put(0, 3, "3");
        Due.is("now", x.asOf(3, 7), 4);
        x.noArgument("after now", Calls.AS_OF, 3, 8);
        x.noArgument("before the hour 0", Calls.AS_OF, 3, -1);
        x.hold(3, 4, 4);
        x.pass(24);
        Due.is("the deletion is dropped", x.thin(), 1);
        Due.is("of those that are kept", x.asOf(3, 6), 1);
        x.release();
        Due.is("the others, too", x.thin(), 2);
        Due.is("none is kept of then", x.asOf(3, 6), NONE);
        Due.is("but of its hour", x.asOf(3, 7), 4);
    }

    public static void main(String[] args) {
        filesAndFolders();
        contentLengths();
        cuts();
        samePieces();
        packs();
        lastPack();
        hours();
        numbersOfVersions();
        manyVersions();
        manyRestored();
        asOf();
        Due.end("ContentsEdgesTest");
    }
}
