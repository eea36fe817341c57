/** Promises 42 to 46 at their edges. */
public final class ImageEdgeTest {
    private static final Check check = new Check();

    public static void main(String[] args) {
        undoOfNone();
        undoOfEachCount();
        undoOfAFullTown();
        undoOfEachChange();
        undoTakesNightsBack();
        undoLeavesTapeAndSheets();
        imageIsTheLatest();
        imageStays();
        tear();
        countEach();
        statusOfEach();
        statusOfItself();
        statusIsNotTakenBack();
        check.end();
    }

    private static void undoOfNone() {
        PeasDrum x = new PeasDrum();
        check.due("43: nothing is kept", x.undo(), Check.NONE);
        check.due("42: image()", x.image(), 1);
        check.due("43: of a new object", x.undo(), 0);
        Towns.fullTown(x);
        check.due("42: one is kept by the town", x.undo(), 10);
        PeasDrum y = new PeasDrum();
        y.image();
        Check.siege(y, "rock 0 to 47;wall 0 to 47;sap ours at 0 way 0;dish 0;bread 5 mouths 5 ration 5");
        y.nights(60);
        check.due("43: back to nothing", y.undo(), 0);
        check.isTrue("43: as a new object", Look.atCamp(y).equals(Look.atCamp(new PeasDrum())));
        check.due("43: the first GALLERY again", y.gallery(1, 1, 1, 1), 0);
        check.due("43: the first DISH again", y.dish(1), 0);
    }

    private static void undoOfEachCount() {
        for (int n = 0; n <= 10; n++) {
            PeasDrum x = new PeasDrum();
            for (int i = 0; i < n; i++) {
                x.gallery(0, 0, i, 0);
            }
            x.image();
            for (int i = n; i < 10; i++) {
                x.gallery(0, 0, i, 0);
            }
            check.due("43: how many GALLERIES", x.undo(), n);
            check.due("45: count(0)", x.count(0), n);
            check.due("8: of one that is no more", x.of(n, 0), Check.BEYOND);
        }
    }

    private static void undoOfAFullTown() {
        PeasDrum x = new PeasDrum();
        Towns.fullTown(x);
        x.image();
        String was = Look.atCamp(x);
        x.nights(60);
        x.blow(27, 30);
        Check.siege(x, "clay 0 to 47");
        x.wipe();
        check.due("43: ten", x.undo(), 10);
        check.isTrue("43: all of it", was.equals(Look.atCamp(x)));
    }

    private interface Change {
        long on(PeasDrum x);
    }

    private static void undone(String what, Change change) {
        PeasDrum x = new PeasDrum();
        Towns.someTown(x);
        x.image();
        String was = Look.atCamp(x);
        check.isTrue(what + " is no finding", change.on(x) > Check.BEYOND);
        check.isTrue(what + " changes something", !was.equals(Look.atCamp(x)));
        check.due(what + ", undo()", x.undo(), 7);
        check.isTrue(what + " is undone", was.equals(Look.atCamp(x)));
    }

    /** All that section 1 tells is kept, each for itself. */
    private static void undoOfEachChange() {
        undone("42: ground(0, 2)", x -> x.ground(0, 2));
        undone("42: ground(47, 3)", x -> x.ground(47, 3));
        undone("42: wall(0, true)", x -> x.wall(0, true));
        undone("42: wall(22, false)", x -> x.wall(22, false));
        undone("42: gallery", x -> x.gallery(0, 0, 0, 0));
        undone("42: turn(1, 2)", x -> x.turn(1, 2));
        undone("42: become(1, 5)", x -> x.become(1, 5));
        undone("42: become(6, 5)", x -> x.become(6, 5));
        undone("42: nights(1)", x -> x.nights(1));
        undone("42: nights(60)", x -> x.nights(60));
        undone("42: dish(0)", x -> x.dish(0));
        undone("42: move(0, 47)", x -> x.move(0, 47));
        undone("42: move(1, 0)", x -> x.move(1, 0));
        undone("42: blow(4, 1)", x -> x.blow(4, 1));
        undone("42: blow(22, 30)", x -> x.blow(22, 30));
        undone("42: bread(0, 9)", x -> x.bread(0, 9));
        undone("42: bread(1, 9)", x -> x.bread(1, 9));
        undone("42: bread(2, 9)", x -> x.bread(2, 9));
        undone("42: lays(0, 0)", x -> x.lays(0, 0));
        undone("42: siege()", x -> x.feed(' ' << 8 | '9', 2) + x.siege());
    }

    private static void undoTakesNightsBack() {
        PeasDrum x = new PeasDrum();
        Check.siege(x, "propped theirs at 0 way 1;propped ours at 1 way 0");
        x.image();
        x.nights(1);
        check.due("14: MET", x.now(3), 1);
        x.undo();
        check.due("42: how many were MET is kept", x.now(3), 0);
        check.due("43: NIGHT", x.now(0), 0);
        x.nights(1);
        x.image();
        Check.waitUntil(x, 999);
        check.due("13: no night is left", x.nights(1), Check.STATE);
        x.undo();
        check.due("43: NIGHT", x.now(0), 1);
        check.due("42: how many were MET is kept", x.now(3), 1);
        check.due("13: nights are left", x.nights(1), 0);
        Check.waitUntil(x, 999);
        x.image();
        x.undo();
        check.due("43: the last NIGHT", x.now(0), 999);
    }

    private static void undoLeavesTapeAndSheets() {
        PeasDrum x = new PeasDrum();
        x.sheet(0, 8, 2);
        Check.feed(x, "dish");
        x.image();
        x.write(0, 0, 5);
        x.sheet(1, 16, 3);
        Check.feed(x, " 7");
        x.undo();
        check.due("42: THE TAPE is not kept", x.count(3), 6);
        check.due("43: sheets stay", x.write(0, 0, 0), 5);
        check.due("43: sheets stay", x.write(1, 2, 0), 0);
        check.due("35: the text", x.siege(), 1);
        x.undo();
        check.due("42: THE TAPE is not kept", x.count(3), 0);
        check.due("43: no DISH", x.count(1), 0);
    }

    private static void imageIsTheLatest() {
        PeasDrum x = new PeasDrum();
        for (int i = 0; i < 4; i++) {
            x.ground(0, i);
            check.due("42: image()", x.image(), 1);
        }
        x.ground(0, 0);
        for (int i = 0; i < 3; i++) {
            check.due("43: undo()", x.undo(), 0);
            check.due("43: the latest", x.cellOf(0, 0), 3);
        }
        check.due("44: only one was kept", x.tear(), 1);
        check.due("43: nothing is kept", x.undo(), Check.NONE);
    }

    /** What comes behind undo() changes not what is kept. */
    private static void imageStays() {
        PeasDrum x = new PeasDrum();
        Towns.someTown(x);
        x.image();
        String was = Look.atCamp(x);
        for (int i = 0; i < 2; i++) {
            x.undo();
            x.nights(5);
            x.ground(0, 3);
            x.turn(1, 2);
            x.dish(5);
            x.blow(27, 20);
            x.bread(0, i);
        }
        x.undo();
        check.isTrue("43: it stays", was.equals(Look.atCamp(x)));
    }

    private static void tear() {
        PeasDrum x = new PeasDrum();
        check.due("44: nothing was", x.tear(), 0);
        check.due("44: nothing was", x.tear(), 0);
        x.gallery(0, 0, 0, 0);
        x.image();
        x.gallery(0, 0, 0, 0);
        check.due("44: something was", x.tear(), 1);
        check.due("44: nothing is", x.tear(), 0);
        check.due("44: what there is stays", x.count(0), 2);
        check.due("43: nothing is kept", x.undo(), Check.NONE);
        check.due("42: anew", x.image(), 1);
        check.due("43: anew", x.undo(), 2);
        check.due("44: undo() leaves it", x.tear(), 1);
    }

    private static void countEach() {
        PeasDrum x = new PeasDrum();
        int[] none = {0, 0, 0, 0, 0, 10, 16};
        int[] most = {10, 9, 48, 120, 999999, 999, 99};
        for (int what = 0; what < 7; what++) {
            check.due("45: at first, count(" + what + ")", x.count(what), none[what]);
        }
        Towns.fullTown(x);
        for (int what = 0; what < 7; what++) {
            check.due("45: at most, count(" + what + ")", x.count(what), most[what]);
        }
        x.gallery(0, 0, 0, 0);
        x.dish(0);
        x.wall(5, true);
        x.feed(0, 1);
        for (int what = 0; what < 7; what++) {
            check.due("45: no more, count(" + what + ")", x.count(what), most[what]);
        }
    }

    private static void statusOfEach() {
        PeasDrum x = new PeasDrum();
        Towns.fullTown(x);
        x.sheet(1, 0, 0);
        int[] due = new int[7];
        for (int round = 1; round <= 3; round++) {
            long[] answers = {x.ground(48, 0), x.dish(0), x.as(0, 1), x.does(0, water(x), 0), x.meets(0, 0),
                x.write(1, 0, 0), x.sheet(0, 8, -1)};
            for (int which = 0; which < 7; which++) {
                check.due("46: finding " + which, answers[which], Check.BEYOND - which);
                due[which]++;
                check.due("46: status(" + which + ")", x.status(which), due[which]);
            }
            check.due("46: status(-1)", x.status(-1), 7 * round);
        }
    }

    private static int water(PeasDrum x) {
        x.ground(47, 3);
        return 47;
    }

    private static void statusOfItself() {
        PeasDrum x = new PeasDrum();
        int[] others = {-2, 7, 8, -7, Integer.MIN_VALUE, Integer.MAX_VALUE, Check.BEYOND};
        for (int i = 0; i < others.length; i++) {
            check.due("46: counted from then on, not yet", x.status(-1), i);
            check.due("46: status(" + others[i] + ")", x.status(others[i]), Check.BEYOND);
            check.due("46: counted from then on", x.status(0), i + 1);
        }
        check.due("46: asking counts not", x.status(-1), others.length);
    }

    private static void statusIsNotTakenBack() {
        PeasDrum x = new PeasDrum();
        x.image();
        x.ground(48, 0);
        x.undo();
        check.due("46: undo() takes none back", x.status(0), 1);
        x.tear();
        x.undo();
        check.due("46: its own finding", x.status(3), 1);
        x.wipe();
        x.image();
        x.undo();
        check.due("46: all", x.status(-1), 2);
        check.due("35: a FAULT is no finding", Check.siege(x, "x"), -1);
        check.due("46: all", x.status(-1), 2);
    }
}
