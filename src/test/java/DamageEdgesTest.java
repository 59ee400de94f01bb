/** The edges of the document's words on damage, on the second house, and on what is counted. */
public final class DamageEdgesTest {
    private static final int KNOWN = KeeperHouse.KNOWN;
    private static final int NO_RIGHT = KeeperHouse.NO_RIGHT;
    private static final int PIECES = 0;
    private static final int PACKS = 1;
    private static final int DAMAGED = 2;
    private static final int SECOND = 3;
    private static final int ENTRIES = 4;
    private static final int CONFLICTS = 5;
    private static final int REFUSALS = 6;
    private static final int UPLOADED = 7;

    private static void damages() {
        Due.sentence("A pack can be damaged: its pieces there are so; returns how many are damaged by that");
        House x = new House();
        x.noIndex("no pack", Calls.DAMAGE, 0);
        x.put(0, 0, "102030");
        x.noIndex("behind the only one", Calls.DAMAGE, 1);
        Due.is("three", x.damage(0), 3);
        Due.is("damaged", x.count(DAMAGED), 3);
        Due.is("none twice", x.damage(0), 0);
        Due.is("damaged still", x.count(DAMAGED), 3);
        x.put(0, 1, "4050607080");
        Due.is("what comes later is whole", x.count(DAMAGED), 3);
        Due.is("the two of the pack that came later", x.damage(0), 2);
        Due.is("not those of another one", x.count(DAMAGED), 5);
        Due.is("the last pack", x.damage(1), 3);
        Due.is("all", x.count(DAMAGED), x.count(PIECES));
        Due.is("they are had", x.count(PIECES), 8);
        House y = new House();
        y.put(0, 0, "102030");
        y.put(0, 0, "10");
        y.damage(0);
        y.pass(24);
        y.thin();
        Due.is("a dropped piece is damaged no more", y.count(DAMAGED), 1);
        y.put(0, 1, "20");
        Due.is("nor when it comes again", y.count(DAMAGED), 1);
        Due.is("it can be damaged again", y.damage(0), 1);
        Due.is("both", y.count(DAMAGED), 2);
    }

    private static void follows() {
        Due.sentence("entries: 1 to 120; returns how many entries it gets");
        House x = new House();
        x.noArgument("none", Calls.FOLLOW, 0);
        x.noArgument("121", Calls.FOLLOW, 121);
        x.noArgument("below none", Calls.FOLLOW, -1);
        Due.is("none there, of one", x.follow(1), 0);
        Due.is("none there, of 120", x.follow(120), 0);
        x.put(0, 0, "10");
        x.put(0, 1, "20");
        x.put(0, 2, "1030");
        x.delete(0, 1);
        Due.is("four", x.count(ENTRIES), 4);
        Due.is("none of their pieces", x.count(SECOND), 0);
        Due.is("one", x.follow(1), 1);
        Due.is("it comes with its piece", x.count(SECOND), 1);
        Due.is("three are left", x.count(ENTRIES), 3);
        Due.is("two", x.follow(2), 2);
        Due.is("in order; a piece that it has is one", x.count(SECOND), 3);
        Due.is("a deletion is one", x.follow(2), 1);
        Due.is("without pieces", x.count(SECOND), 3);
        Due.is("none is left", x.follow(120), 0);
        Due.is("none", x.count(ENTRIES), 0);
        x.pass(1);
        x.restore(1, 0);
        Due.is("no deletion any more, or again", x.count(ENTRIES), 0);
        x.put(0, 0, "40");
        x.restore(0, 0);
        Due.is("a version by nobody is an entry, too", x.count(ENTRIES), 2);
        House y = new House();
        for (int file = 0; file < 3; file++) {
            y.put(0, file, "1");
        }
        Due.is("just as many as there are", y.follow(3), 3);
        Due.is("none is left", y.follow(1), 0);
        House z = new House();
        z.write(0, 0, "1020");
        z.upload(0, 1);
        Due.is("a piece without a version is no entry", z.follow(9), 0);
        Due.is("and not had", z.count(SECOND), 0);
    }

    private static void followsDamaged() {
        Due.sentence("what is damaged in the house then is not had by it, unless it comes with a later version");
        House x = new House();
        x.put(0, 0, "1020");
        x.put(0, 1, "1030");
        x.damage(0);
        x.put(0, 2, "1040");
        Due.is("the first", x.follow(1), 1);
        Due.is("nothing is had", x.count(SECOND), 0);
        Due.is("the others", x.follow(9), 2);
        Due.is("only what is not damaged", x.count(SECOND), 1);
        Due.is("nothing can be mended", x.scrub(), 0);
        Due.is("damaged", x.count(DAMAGED), 3);
        House y = new House();
        y.put(0, 0, "1020");
        y.follow(1);
        y.damage(0);
        y.put(0, 1, "1030");
        Due.is("what it had before it has still", y.follow(1) * 10 + y.count(SECOND), 13);
        Due.is("and it mends", y.scrub(), 2);
        House z = new House();
        z.put(0, 0, "10");
        z.damage(0);
        z.follow(1);
        z.delete(0, 0);
        z.passAll(240);
        z.thin();
        Due.is("the piece has gone", z.count(PIECES), 0);
        z.put(0, 1, "10");
        z.follow(9);
        Due.is("whole, with a later version", z.count(SECOND), 1);
        Due.sentence("a damaged piece that comes whole with a later version");
        House w = new House();
        w.put(0, 0, "10");
        w.follow(1);
        w.put(0, 1, "20");
        w.damage(0);
        w.follow(1);
        Due.is("10 is had, 20 not", w.count(SECOND), 1);
        w.scrub();
        w.put(0, 2, "20");
        w.follow(1);
        Due.is("20 is damaged still", w.count(SECOND), 1);
        Due.is("one", w.count(DAMAGED), 1);
    }

    private static void thinnedEntries() {
        Due.sentence("a version that is dropped is no entry any more");
        House x = new House();
        x.put(0, 0, "10");
        x.put(0, 0, "20");
        x.put(0, 1, "30");
        x.put(0, 0, "40");
        x.put(0, 1, "50");
        x.follow(1);
        x.pass(24);
        Due.is("three go", x.thin(), 3);
        Due.is("two are left", x.count(ENTRIES), 2);
        Due.is("the first that is kept", x.follow(1), 1);
        Due.is("with its piece; that of the dropped one is gone", x.count(SECOND), 1);
        Due.is("one is left", x.count(ENTRIES), 1);
        x.put(0, 2, "60");
        Due.is("and a new one", x.follow(120), 2);
        Due.is("all pieces", x.count(SECOND), x.count(PIECES));
        Due.is("three", x.count(SECOND), 3);
        House y = new House();
        y.put(0, 0, "10");
        y.put(0, 0, "20");
        y.follow(120);
        y.pass(24);
        y.thin();
        Due.is("what it has got is no entry again", y.count(ENTRIES), 0);
        Due.sentence("pieces that the house drops are dropped there, too");
        Due.is("10", y.count(SECOND), 1);
        House z = new House();
        z.put(0, 0, "10");
        z.put(0, 0, "20");
        z.follow(1);
        z.pass(24);
        z.thin();
        Due.is("at once, before it follows", z.count(SECOND), 0);
        z.put(0, 1, "10");
        z.damage(0);
        Due.is("so that it mends none", z.scrub(), 0);
        House w = new House();
        w.put(0, 0, "1020");
        w.put(0, 0, "10");
        w.follow(9);
        w.pass(24);
        w.thin();
        w.put(0, 1, "20");
        Due.is("a piece that comes again", w.count(PIECES), 2);
        Due.is("is not there till its version comes", w.count(SECOND), 1);
        w.put(0, 2, "30");
        w.damage(0);
        Due.is("nor are others in its place", w.scrub(), 1);
    }

    private static void scrubs() {
        Due.sentence("To scrub is to mend all pieces that are damaged from the second house, as far as that has them");
        House x = new House();
        Due.is("of an empty house", x.scrub(), 0);
        x.put(0, 0, "102030405060");
        x.put(0, 1, "70");
        Due.is("none is damaged", x.scrub(), 0);
        x.damage(0);
        Due.is("none is had", x.scrub(), 0);
        x.put(0, 2, "6080");
        x.follow(2);
        x.damage(1);
        Due.is("60 and 70, but not 80", x.scrub(), 2);
        Due.is("the others are damaged still", x.count(DAMAGED), 6);
        Due.is("twice", x.scrub(), 0);
        Due.is("the first pack still", x.damage(0), 0);
        Due.is("the mended ones again", x.damage(1), 2);
        Due.is("mended again", x.scrub(), 2);
        House y = new House();
        y.put(0, 0, "102030405060");
        y.follow(1);
        y.damage(0);
        y.damage(1);
        Due.is("all packs", y.scrub(), 6);
        Due.is("none is damaged", y.count(DAMAGED), 0);
        y.pull(1);
        Due.is("and can be fetched", y.open(1, 0), 12);
    }

    private static void losses() {
        Due.sentence("lost: how many versions that are kept have a piece that is whole in neither house");
        House x = new House();
        Due.is("of none", x.lost(), 0);
        x.put(0, 0, "1020");
        x.put(0, 1, "2030");
        x.put(0, 2, "40");
        x.delete(0, 2);
        Due.is("all are whole", x.lost(), 0);
        x.follow(1);
        Due.is("all are whole", x.lost(), 0);
        x.damage(0);
        Due.is("1020 is in the second house; 20 of 2030 too, 30 not", x.lost(), 2);
        x.scrub();
        Due.is("mended ones were not lost", x.lost(), 2);
        x.follow(9);
        Due.is("what follows damaged is lost", x.lost(), 2);
        House y = new House();
        y.put(0, 0, "1020");
        y.damage(0);
        Due.is("a version with two such pieces is one", y.lost(), 1);
        y.put(0, 0, "102030");
        Due.is("a version with one more, whole", y.lost(), 2);
        y.put(0, 0, "30");
        Due.is("and one that is whole", y.lost(), 2);
        y.pass(24);
        y.thin();
        Due.is("that are kept", y.lost(), 0);
        House z = new House();
        z.put(0, 0, "10");
        z.follow(1);
        z.damage(0);
        Due.is("in the second house alone", z.lost(), 0);
        z.put(1, 1, "10");
        Due.is("also of a version that it has not got", z.lost(), 0);
        House w = new House();
        w.write(0, 0, "1020");
        w.upload(0, 1);
        w.damage(0);
        Due.is("pieces of no version", w.lost(), 0);
        w.upload(0, 1);
        Due.is("of one", w.lost(), 1);
    }

    private static void counts() {
        Due.sentence("count: what: 0 to 7");
        House x = new House();
        x.noArgument("-1", Calls.COUNT, -1);
        x.noArgument("8", Calls.COUNT, 8);
        x.put(0, 4, "102030405060");
        x.put(0, 5, "7080");
        x.put(0, 6, "10");
        x.follow(2);
        x.damage(1);
        x.scrub();
        x.put(0, 8, "90");
        x.damage(1);
        x.write(1, 4, "60");
        x.write(1, 5, "3070");
        x.upload(1, 9);
        x.share(0, 1, NO_RIGHT, 9);
        x.write(1, 8, "90");
        x.write(1, 12, "20");
        x.upload(1, 9);
        Due.is("pieces of the house", x.count(PIECES), 9);
        Due.is("packs that were begun", x.count(PACKS), 2);
        Due.is("damaged pieces of the house", x.count(DAMAGED), 4);
        Due.is("pieces of the second house", x.count(SECOND), 8);
        Due.is("entries that it has not got", x.count(ENTRIES), 4);
        Due.is("conflicts so far", x.count(CONFLICTS), 3);
        Due.is("files that were REFUSED so far", x.count(REFUSALS), 1);
        Due.is("pieces uploaded so far", x.count(UPLOADED), 9);
        x.delete(0, 4);
        x.passAll(240);
        x.thin();
        Due.is("pieces that went", x.count(PIECES) < 9, true);
        Due.is("uploaded so far, also what went", x.count(UPLOADED), 9);
        Due.is("conflicts so far, still", x.count(CONFLICTS), 3);
        x.pull(1);
        x.pull(2);
        Due.is("known", x.stateOf(2, 8), KNOWN);
    }

    private static void greatHouse() {
        Due.sentence("An object is used for at most 512 calls: as many pieces as they can make");
        House x = new House();
        int made = 0;
        for (int turn = 0; turn < 34; turn++) {
            for (int part = 0; part < 4; part++) {
                x.draft(1 + made / 81);
                x.draft(1 + made / 9 % 9);
                x.draft(1 + made % 9);
                made++;
            }
            x.write(0, turn % 16);
            Due.is("a version", x.upload(0, 100), 1);
        }
        Due.is("three of four numbers in each", x.count(PIECES), 102);
        Due.is("packs", x.count(PACKS), 21);
        Due.is("the last one", x.damage(20), 2);
        Due.is("the one before", x.damage(19), 5);
        Due.is("the first one", x.damage(0), 5);
        x.noIndex("no more", Calls.DAMAGE, 21);
        Due.is("all entries", x.follow(120), 34);
        Due.is("what was whole", x.count(SECOND), 90);
    }

    public static void main(String[] args) {
        damages();
        follows();
        followsDamaged();
        thinnedEntries();
        scrubs();
        losses();
        counts();
        greatHouse();
        Due.end("DamageEdgesTest");
    }
}
