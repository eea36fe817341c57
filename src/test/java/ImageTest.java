/** Promises 42 to 46: image, undo, tear, count, status. */
public final class ImageTest {
    private static final Check check = new Check();

    public static void main(String[] args) {
        image();
        imageOfAll();
        count();
        status();
        findingsChangeNothing();
        eachFindingCounts();
        check.end();
    }

    private static void image() {
        PeasDrum x = new PeasDrum();
        check.due("43: nothing is kept", x.undo(), Check.NONE);
        check.due("44: tear()", x.tear(), 0);
        check.due("42: image()", x.image(), 1);
        x.gallery(0, 0, 0, 1);
        check.due("42: image(), anew", x.image(), 1);
        x.gallery(0, 0, 1, 1);
        check.due("43: the latest", x.undo(), 1);
        x.gallery(0, 0, 2, 1);
        x.gallery(0, 0, 2, 1);
        check.due("43: it stays", x.undo(), 1);
        check.due("44: tear()", x.tear(), 1);
        check.due("44: tear()", x.tear(), 0);
        check.due("43: nothing is kept", x.undo(), Check.NONE);
        check.due("44: what is stays", x.count(0), 1);
    }

    private static void imageOfAll() {
        PeasDrum x = new PeasDrum();
        Check.siege(x, "rock 5;wall 6;deep theirs at 7 way 1;dish 8;bread 9 mouths 8 ration 7");
        x.gallery(1, 0, 24, 1);
        x.gallery(1, 1, 26, 2);
        x.gallery(1, 0, 32, 1);
        x.nights(3);
        check.due("42: MET", x.now(3), 1);
        x.sheet(0, 8, 2);
        x.write(0, 0, 1);
        Check.feed(x, "ab");
        x.image();
        String was = Look.atCamp(x);
        x.ground(5, 3);
        x.wall(6, false);
        x.wall(7, true);
        x.turn(0, 2);
        x.become(0, 2);
        x.gallery(0, 1, 47, 0);
        x.gallery(0, 0, 39, 0);
        x.nights(4);
        x.blow(39, 30);
        x.move(0, 3);
        x.dish(4);
        x.bread(0, 1);
        x.bread(1, 2);
        x.bread(2, 3);
        Check.feed(x, "cd");
        x.write(0, 0, 2);
        x.undo();
        check.isTrue("43: all is as it was", was.equals(Look.atCamp(x)));
        check.due("43: THE TAPE isn't kept", x.count(3), 4);
        check.due("43: sheets aren't kept", x.write(0, 0, 0), 2);
        check.due("43: sound is as it was", x.far(4, 5), 1);
        int before = x.status(-1);
        x.ground(-1, 0);
        x.undo();
        check.due("46: undo() takes none back", x.status(-1), before + 1);
        check.due("43: what the image has is not changed by nights", x.nights(3), 0);
        x.undo();
        check.isTrue("43: all is as it was", was.equals(Look.atCamp(x)));
    }

    private static void count() {
        PeasDrum x = new PeasDrum();
        Check.siege(x, "wall 0 to 6;sap ours at 7 way 1;dish 8;dish 9;bread 12 mouths 13 ration 14");
        Check.feed(x, "abc");
        int[] due = {1, 2, 7, 3, 12, 13, 14};
        for (int what = 0; what < due.length; what++) {
            check.due("45: count(" + what + ")", x.count(what), due[what]);
        }
        check.due("45: count(7)", x.count(7), Check.BEYOND);
        check.due("45: count(-1)", x.count(-1), Check.BEYOND);
        x.blow(7, 1);
        check.due("45: LOST ones are counted", x.count(0), 1);
    }

    private static void status() {
        PeasDrum x = new PeasDrum();
        for (int which = -1; which < 7; which++) {
            check.due("46: status(" + which + ")", x.status(which), 0);
        }
        check.due("46: status(7)", x.status(7), Check.BEYOND);
        check.due("46: status(-2)", x.status(-2), Check.BEYOND);
        check.due("46: counted from then on", x.status(0), 2);
        for (int d = 0; d < 10; d++) {
            x.dish(0);
        }
        x.gallery(0, 0, 0, 0);
        x.as(0, 1);
        x.as(0, 2);
        for (int i = 0; i < 3; i++) {
            x.undo();
        }
        for (int i = 0; i < 4; i++) {
            x.comes(0, 0);
        }
        for (int i = 0; i < 5; i++) {
            x.book(0);
        }
        for (int i = 0; i < 6; i++) {
            x.sheet(0, 8, -1);
        }
        int[] due = {2, 1, 2, 3, 4, 5, 6};
        for (int which = 0; which < due.length; which++) {
            check.due("46: status(" + which + ")", x.status(which), due[which]);
        }
        check.due("46: status(-1)", x.status(-1), 23);
        check.due("46: longs, too", x.where(9), Check.BEYOND);
        check.due("46: longs, too", x.write(9, 0, 0), Check.BEYOND);
        check.due("46: longs, too", x.status(0), 4);
    }

    private static void findingsChangeNothing() {
        PeasDrum x = new PeasDrum();
        Check.siege(x, "sand 5;gallery theirs at 4 way 1;dish 8;bread 9");
        x.nights(2);
        x.sheet(0, 8, 2);
        x.write(0, 0, 3);
        String was = Look.atCamp(x);
        x.ground(5, 4);
        x.ground(48, 0);
        x.wall(48, true);
        x.gallery(0, 0, 0, 4);
        x.turn(0, 2);
        x.become(0, 6);
        x.nights(61);
        x.move(0, 48);
        x.dish(48);
        x.blow(4, 31);
        x.bread(1, 0);
        x.feed(0, 5);
        x.lays(0, 48);
        x.sheet(0, 9, 1);
        x.sheet(0, 8, -1);
        x.sheet(0, 8, 41);
        x.copy(0, 0, 0, 1, 2);
        x.undo();
        check.isTrue("a finding changes nothing", was.equals(Look.atCamp(x)));
        check.due("sheets too", x.write(0, 0, 0), 3);
        check.due("sheets too", x.write(0, 1, 0), 0);
        check.due("THE TAPE too", x.count(3), 0);
        check.due("all were findings", x.status(-1), 18);
    }

    private static int findings = 0;

    /** The act that answered this answered a finding, and status() knows. */
    private static void counted(PeasDrum x, String call, long answer) {
        findings++;
        check.isTrue("46: " + call + " answers a finding", answer <= Check.BEYOND && answer >= Check.SIZE);
        check.due("46: status(-1) behind " + call, x.status(-1), findings);
    }

    private static void eachFindingCounts() {
        PeasDrum x = new PeasDrum();
        counted(x, "where", x.where(0));
        counted(x, "best", x.best(0));
        Check.siege(x, "gallery theirs at 4 way 0;sap ours at 47 way 2;dish 4");
        counted(x, "ground", x.ground(48, 0));
        counted(x, "wall", x.wall(48, true));
        counted(x, "cellOf", x.cellOf(0, 3));
        counted(x, "far", x.far(48, 0));
        counted(x, "gallery", x.gallery(6, 0, 0, 0));
        counted(x, "of", x.of(2, 0));
        counted(x, "turn", x.turn(2, 0));
        counted(x, "become", x.become(2, 0));
        counted(x, "as", x.as(2, 0));
        counted(x, "does", x.does(2, 0, 0));
        counted(x, "nights", x.nights(0));
        counted(x, "now", x.now(4));
        counted(x, "on", x.on(2, 0));
        counted(x, "lost", x.lost(2));
        counted(x, "lost", x.lost(1));
        counted(x, "first", x.first());
        counted(x, "comes", x.comes(2, 0));
        counted(x, "meets", x.meets(2, 0));
        counted(x, "meets", x.meets(0, 0));
        counted(x, "whose", x.whose(2));
        counted(x, "whose", x.whose(1));
        counted(x, "dish", x.dish(48));
        counted(x, "move", x.move(1, 0));
        counted(x, "peas", x.peas(1));
        counted(x, "hears", x.hears(1, 0));
        counted(x, "where", x.where(6));
        counted(x, "best", x.best(6));
        counted(x, "best", x.best(2));
        counted(x, "falls", x.falls(48, 1));
        counted(x, "blow", x.blow(48, 1));
        counted(x, "mine", x.mine(0));
        counted(x, "mine", x.mine(1));
        counted(x, "bread", x.bread(3, 1));
        counted(x, "ration", x.ration(0));
        counted(x, "ration", x.ration(1));
        counted(x, "feed", x.feed(0, 0));
        sheetFindingsCount(x);
        counted(x, "undo", x.undo());
        counted(x, "count", x.count(7));
        counted(x, "status", x.status(7));
    }

    private static void sheetFindingsCount(PeasDrum x) {
        counted(x, "sheet", x.sheet(4, 8, 1));
        counted(x, "write", x.write(4, 0, 0));
        counted(x, "write", x.write(0, 0, 0));
        counted(x, "copy", x.copy(4, 0, 0, 0, 0));
        counted(x, "copy", x.copy(0, 0, 0, 0, 0));
        counted(x, "lays", x.lays(4, 0));
        counted(x, "lays", x.lays(0, 0));
        counted(x, "book", x.book(4));
        counted(x, "book", x.book(0));
        counted(x, "read", x.read(4));
        counted(x, "read", x.read(0));
        x.sheet(0, 8, 1);
        x.write(0, 0, 99);
        counted(x, "write", x.write(0, 1, 0));
        counted(x, "lays", x.lays(0, 48));
        counted(x, "read", x.read(0));
    }
}
