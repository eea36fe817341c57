/** Promises 15 to 20 at their edges. */
public final class OnEdgeTest {
    private static final Check check = new Check();

    public static void main(String[] args) {
        onEachNight();
        onForTen();
        onIsNotAlone();
        lostInOneNight();
        lostAsLateAsCanBe();
        lostByOthers();
        firstNow();
        firstOfSeveral();
        firstAsLateAsCanBe();
        firstOfOurs();
        comesNowhere();
        comesFar();
        comesByTheLeastSum();
        meetsNow();
        meetsWithinSixty();
        meetsAheadOfItsLoss();
        meetsWithNoOthers();
        meetsAsTheirsGoesOn();
        meetsByThoseBesideTheHead();
        whoseOfSeveral();
        whoseLeavesOut();
        lastNights();
        check.end();
    }

    private static PeasDrum told(String text) {
        PeasDrum x = new PeasDrum();
        check.isTrue("'" + text + "' is right", Check.siege(x, text) > 0);
        return x;
    }

    /** ROCK below the WALL: a MINE needs 6 nights for each CELL. */
    private static PeasDrum hardGround(String text) {
        return told("rock 0 to 47;wall 0 to 47;" + text);
    }

    private static void onEachNight() {
        PeasDrum x = hardGround("mine theirs at 0 way 1;mine ours at 47 way 3");
        for (int n = 0; n <= 99; n++) {
            check.due("15: on(0, " + n + ")", x.on(0, n), Math.min(7, n / 6));
            check.due("15: on(1, " + n + ")", x.on(1, n), Math.max(40, 47 - n / 6));
        }
        x.nights(5);
        check.due("15: DONE counts", x.on(0, 1), 1);
        check.due("15: on(0, 0)", x.on(0, 0), 0);
        check.due("15: nothing changes", x.of(0, 4), 5);
    }

    private static void onForTen() {
        PeasDrum x = new PeasDrum();
        for (int i = 0; i < 10; i++) {
            x.gallery(0, 0, i, 2);
        }
        for (int i = 0; i < 10; i++) {
            check.due("15: on(" + i + ", 99)", x.on(i, 99), 40 + i % 8);
            check.due("15: on(" + i + ", 1)", x.on(i, 1), 8 + i);
        }
    }

    private static void onIsNotAlone() {
        PeasDrum x = told("gallery theirs at 0 way 1;propped ours at 12 way 1");
        x.ground(13, 2);
        x.ground(21, 3);
        check.due("15: MET on the way, HEAD stays", x.on(0, 99), 4);
        x.blow(12, 1);
        check.due("15: not MET", x.on(0, 99), 7);
        x.blow(0, 1);
        for (int n : new int[] {0, 1, 99}) {
            check.due("15: a LOST one stays, " + n, x.on(0, n), 0);
        }
    }

    private static void lostInOneNight() {
        check.due("16: by WATER in 1", told("water 1;sap theirs at 0 way 1").lost(0), 1);
        check.due("16: in SAND in 1", told("sand 1;sap ours at 0 way 1").lost(0), 1);
        check.due("16: in SAND in 2", told("sand 1;gallery ours at 0 way 1").lost(0), 2);
        check.due("16: MET in 1", told("propped theirs at 0 way 0;propped ours at 1 way 0").lost(0), 1);
        check.due("16: it rests", told("sap theirs at 0 way 0").lost(0), Check.NONE);
        check.due("16: it rests in SAND", told("sand 0;sap theirs at 0 way 0").lost(0), Check.NONE);
        check.due("16: it rests in WATER", told("water 0;sap theirs at 0 way 0").lost(0), Check.NONE);
    }

    private static void lostAsLateAsCanBe() {
        PeasDrum x = hardGround("mine theirs at 0 way 1;mine ours at 15 way 1");
        check.due("16: MET in 42, at the far end", x.lost(0), 42);
        check.due("16: ours is not", x.lost(1), Check.NONE);
        x.nights(41);
        check.due("16: then in 1", x.lost(0), 1);
        check.due("16: it isn't LOST yet", x.of(0, 5), 0);
        x.nights(1);
        check.due("16: it is LOST", x.lost(0), Check.STATE);
        PeasDrum y = hardGround("mine theirs at 0 way 1;water 7");
        check.due("16: by WATER at the far end", y.lost(0), 37);
    }

    private static void lostByOthers() {
        PeasDrum x = new PeasDrum();
        for (int i = 0; i < 9; i++) {
            x.gallery(0, 0, 0, 1);
        }
        x.gallery(0, 1, 7, 3);
        for (int i = 0; i < 9; i++) {
            check.due("16: lost(" + i + ")", x.lost(i), 3);
        }
        check.due("16: lost(9)", x.lost(9), Check.NONE);
    }

    private static void firstNow() {
        check.due("17: in 0 NIGHTS", told("wall 0;sap theirs at 0 way 1").first(), 0);
        check.due("17: in 0, at 47", told("wall 47;sap theirs at 47 way 1").first(), 0);
        check.due("17: in 1", told("wall 1;sap theirs at 0 way 1").first(), 0);
        check.due("17: none there", told("wall 0 to 47").first(), Check.NONE);
        check.due("17: no WALL", told("sap theirs at 0 way 1").first(), Check.NONE);
        check.due("17: it goes away", told("wall 0;sap theirs at 1 way 1").first(), Check.NONE);
        PeasDrum x = new PeasDrum();
        x.wall(20, true);
        for (int i = 0; i < 10; i++) {
            x.gallery(0, 0, i < 9 ? 0 : 19, i < 9 ? 0 : 1);
        }
        check.due("17: the last of ten", x.first(), 9);
        x.wall(0, true);
        check.due("17: the least of nine", x.first(), 0);
    }

    private static void firstOfSeveral() {
        String wall = "wall 7 15 23;";
        check.due("17: of two the least", told(wall + "sap theirs at 8 way 1;sap theirs at 0 way 1").first(), 0);
        check.due("17: a night sooner", told(wall + "sap theirs at 8 way 1;sap theirs at 1 way 1").first(), 1);
        check.due("17: a night later", told(wall + "sap theirs at 9 way 1;sap theirs at 0 way 1").first(), 0);
        PeasDrum x = told("wall 7;mine theirs at 0 way 1;propped theirs at 0 way 1");
        check.due("17: a MINE is slower below the WALL", x.first(), 1);
        x.nights(60);
        check.due("17: both are there", x.first(), 0);
    }

    private static void firstAsLateAsCanBe() {
        PeasDrum x = told("rock 0 to 47;wall 7;mine theirs at 0 way 1");
        check.due("17: in 36", x.first(), 0);
        x.wall(7, false);
        x.wall(0, true);
        check.due("17: now", x.first(), 0);
        x.turn(0, 2);
        x.wall(0, false);
        x.wall(40, true);
        check.due("17: in 26", x.first(), 0);
        x.ground(40, 3);
        check.due("17: WATER, it never comes there", x.first(), Check.NONE);
    }

    private static void firstOfOurs() {
        PeasDrum x = told("wall 1 2;sap ours at 1 way 1;sap theirs at 40 way 1");
        check.due("17: ours is not asked for", x.first(), Check.NONE);
        x.wall(47, true);
        check.due("17: theirs", x.first(), 1);
        PeasDrum y = told("wall 36;sap theirs at 32 way 1;sap ours at 43 way 2");
        check.due("17: MET ahead of the WALL", y.first(), Check.NONE);
        y.wall(34, true);
        check.due("17: not MET ahead of the WALL", y.first(), 0);
    }

    private static void comesNowhere() {
        PeasDrum x = told("water 1 8;propped ours at 0 way 1;gallery ours at 20 way 1;sand 12 19 21 28");
        check.due("18: shut in by WATER", x.comes(0, 47), Check.NONE);
        check.due("18: its own HEAD", x.comes(0, 0), 0);
        check.due("18: shut in by SAND", x.comes(1, 47), Check.NONE);
        check.due("18: its own HEAD", x.comes(1, 20), 0);
        check.due("18: BESIDE it, in SAND", x.comes(1, 21), Check.NONE);
        check.due("18: into a CELL that is shut in", x.comes(1, 0), Check.NONE);
        x.become(1, 1);
        check.due("18: PROPPED through SAND", x.comes(1, 21), 3);
        check.due("18: but not through WATER", x.comes(1, 0), Check.NONE);
        PeasDrum y = told("water 20;sand 21;sap ours at 20 way 1;sap ours at 21 way 1");
        check.due("18: its own HEAD in WATER", y.comes(0, 20), 0);
        check.due("18: its own HEAD in SAND", y.comes(1, 21), 0);
        check.due("18: not into that of the other", y.comes(1, 20), Check.NONE);
        check.due("18: not into that of the other", y.comes(0, 21), Check.NONE);
        check.due("18: out of WATER", y.comes(0, 12), 1);
        check.due("18: out of SAND", y.comes(1, 13), 1);
    }

    /** A way of 26 CELLS that winds through WATER: it takes as long as it takes. */
    private static void comesFar() {
        PeasDrum x = hardGround("water 8 to 14;water 25 to 31;water 40 to 46;mine ours at 0 way 3");
        check.due("18: comes(0, 47)", x.comes(0, 47), 26 * 6);
        check.due("18: comes(0, 7)", x.comes(0, 7), 7 * 6);
        check.due("18: comes(0, 16)", x.comes(0, 16), 16 * 6);
        check.due("18: comes(0, 8)", x.comes(0, 8), Check.NONE);
        x.become(0, 2);
        check.due("18: as a SAP", x.comes(0, 47), 26 * 2);
        for (int cell : new int[] {0, 7, 40, 47}) {
            PeasDrum y = new PeasDrum();
            y.gallery(0, 1, cell, 0);
            check.due("18: to the other corner", y.comes(0, 47 - cell), 12);
        }
    }

    private static void comesByTheLeastSum() {
        PeasDrum x = told("gallery ours at 16 way 0;rock 17 18");
        check.due("18: around ROCK", x.comes(0, 19), 5);
        check.due("18: into ROCK", x.comes(0, 17), 4);
        check.due("18: into ROCK from the side", x.comes(0, 18), 7);
        x.ground(17, 1);
        x.ground(18, 1);
        check.due("18: around SAND", x.comes(0, 19), 5);
        x.become(0, 1);
        check.due("18: PROPPED, through SAND", x.comes(0, 19), 8);
        x.become(0, 3);
        x.wall(17, true);
        check.due("18: MINE, through SAND below the WALL", x.comes(0, 19), 9);
        x.wall(18, true);
        check.due("18: MINE, around two of them", x.comes(0, 19), 10);
        x.nights(1);
        check.due("18: DONE is forgotten", x.comes(0, 8), 2);
    }

    private static void meetsNow() {
        int[] near = {20, 12, 21, 28, 19};
        for (int cell : near) {
            PeasDrum x = told("water 0 to 47");
            x.gallery(0, 1, cell, 0);
            x.gallery(0, 0, 20, 0);
            check.due("19: from " + cell + " in 0", x.meets(0, 1), 0);
            check.due("20: from " + cell, x.whose(1), 0);
        }
        int[] notNear = {11, 13, 27, 29, 4, 22, 36, 18};
        for (int cell : notNear) {
            PeasDrum x = told("water 0 to 47");
            x.gallery(0, 1, cell, 0);
            x.gallery(0, 0, 20, 0);
            check.due("19: from " + cell + " never", x.meets(0, 1), Check.NONE);
            check.due("20: from " + cell + " never", x.whose(1), Check.NONE);
        }
        check.due("19: not over the edge", told("water 0 6 14 to 17;sap ours at 7 way 1;sap theirs at 8 way 3")
                .meets(0, 1), Check.NONE);
    }

    /** One way alone: 9 CELLS of 6 nights, and the two that are told. */
    private static PeasDrum oneWay(int firstTwo) {
        PeasDrum x = hardGround("water 8 to 14;water 16 to 22;water 24 to 30;water 32 to 38;water 40 to 46");
        Check.siege(x, "mine ours at 0 way 3;propped theirs at 47 way 1");
        if (firstTwo == 6) {
            Check.siege(x, "clay 1 2");
        } else {
            Check.siege(x, "clay 2");
            x.wall(1, false);
            x.wall(2, false);
        }
        check.due("18: the way up to 39", x.comes(0, 39), 54 + firstTwo);
        return x;
    }

    private static void meetsWithinSixty() {
        check.due("19: in 60", oneWay(6).meets(0, 1), 60);
        check.due("20: in 60", oneWay(6).whose(1), 0);
        check.due("19: not in 61", oneWay(7).meets(0, 1), Check.NONE);
        check.due("20: not in 61", oneWay(7).whose(1), Check.NONE);
    }

    private static void meetsAheadOfItsLoss() {
        String theirs = "water 2;gallery theirs at 0 way 1;";
        check.due("16: LOST in 2", told(theirs + "gallery ours at 47 way 1").lost(0), 2);
        check.due("19: in 1", told(theirs + "gallery ours at 17 way 1").meets(1, 0), 1);
        check.due("19: in 2 it is LOST", told(theirs + "gallery ours at 25 way 1").meets(1, 0), Check.NONE);
        check.due("20: in 2 it is LOST", told(theirs + "gallery ours at 25 way 1").whose(0), Check.NONE);
        String sand = "sand 1;gallery theirs at 0 way 1;";
        check.due("19: ahead of SAND", told(sand + "gallery ours at 17 way 1").meets(1, 0), Check.NONE);
        check.due("19: ahead of SAND", told(sand + "gallery ours at 16 way 1").meets(1, 0), 1);
    }

    private static void meetsWithNoOthers() {
        PeasDrum x = told("propped theirs at 0 way 1;gallery ours at 47 way 1;gallery ours at 1 way 0");
        check.due("16: MET in 1, by the other", x.lost(0), 1);
        check.due("19: the other is left out", x.meets(1, 0), 8);
        check.due("19: the other", x.meets(2, 0), 0);
        check.due("20: the other", x.whose(0), 2);
        PeasDrum y = told("propped theirs at 0 way 1;propped ours at 10 way 3");
        check.due("16: MET in 2, as ours digs", y.lost(0), 2);
        check.due("19: by any way it likes", y.meets(1, 0), 2);
    }

    /** In the first n at which it can be there by n, as theirs comes nearer or goes away. */
    private static void meetsAsTheirsGoesOn() {
        PeasDrum x = told("propped theirs at 0 way 1");
        x.nights(1);
        Check.siege(x, "gallery ours at 3 way 0");
        check.due("8: DONE of theirs", x.of(0, 4), 1);
        check.due("19: DONE of theirs counts", x.meets(1, 0), 1);
        check.due("20: DONE of theirs counts", x.whose(0), 1);
        x.turn(0, 2);
        x.turn(0, 1);
        check.due("19: none is DONE", x.meets(1, 0), 2);
        PeasDrum y = told("water 8 to 15;propped ours at 7 way 3;gallery theirs at 0 way 0");
        y.nights(1);
        check.due("8: DONE of ours", y.of(0, 4), 1);
        check.due("19: DONE of ours is forgotten", y.meets(0, 1), 12);
    }

    private static void meetsByThoseBesideTheHead() {
        check.due("19: towards one another", told("gallery theirs at 0 way 1;gallery ours at 7 way 3")
                .meets(1, 0), 3);
        check.due("19: one behind the other", told("gallery theirs at 2 way 1;gallery ours at 0 way 1")
                .meets(1, 0), 6);
        check.due("19: a slow one behind", told("gallery theirs at 2 way 1;propped ours at 0 way 1")
                .meets(1, 0), 12);
        check.due("19: theirs rests", told("gallery theirs at 0 way 0;gallery ours at 47 way 1")
                .meets(1, 0), 11);
    }

    private static void whoseOfSeveral() {
        String theirs = "sap theirs at 0 way 0;";
        check.due("20: none of ours", told(theirs + "sap theirs at 1 way 0").whose(0), Check.NONE);
        check.due("20: of two the least", told(theirs + "sap ours at 5 way 0;sap ours at 40 way 0").whose(0), 1);
        check.due("20: a night sooner", told(theirs + "sap ours at 6 way 0;sap ours at 40 way 0").whose(0), 2);
        check.due("20: a night later", told(theirs + "sap ours at 5 way 0;sap ours at 41 way 0").whose(0), 1);
        PeasDrum x = new PeasDrum();
        x.gallery(0, 0, 0, 0);
        for (int i = 1; i < 10; i++) {
            x.gallery(0, 1, 48 - i, 0);
        }
        // 41 is 6 away, and 40 is 5: of nine the nearest are 7 (41), 8 (40) and 9 (39).
        check.due("20: of nine", x.whose(0), 8);
    }

    private static void whoseLeavesOut() {
        PeasDrum x = told("sap theirs at 0 way 0;sap ours at 1 way 0;sap ours at 47 way 0");
        check.due("20: the near one", x.whose(0), 1);
        x.blow(1, 1);
        check.due("20: not a LOST one", x.whose(0), 2);
        x.blow(47, 1);
        check.due("20: none is left", x.whose(0), Check.NONE);
        PeasDrum y = told("sap theirs at 0 way 0;sap theirs at 1 way 0;sap ours at 47 way 0");
        check.due("20: not one of theirs", y.whose(0), 2);
    }

    /** Up to which night it may be asked, with answers that are no findings. */
    private static void lastNights() {
        PeasDrum x = told("wall 1;sap theirs at 8 way 3;sap ours at 47 way 2;dish 8");
        x.sheet(0, 8, 1);
        x.write(0, 0, 6);
        Check.waitUntil(x, 900);
        x.turn(0, 0);
        x.wall(0, true);
        x.ground(9, 3);
        check.due("17: first() at 900", x.first(), 0);
        x.turn(0, 1);
        check.due("16: lost(0) at 900", x.lost(0), 1);
        x.ground(9, 0);
        x.turn(0, 3);
        x.nights(1);
        check.due("16: lost(0) at 901", x.lost(0), Check.STATE);
        check.due("17: first() at 901", x.first(), Check.STATE);
        Check.waitUntil(x, 939);
        check.due("19: meets(1, 0) at 939", x.meets(1, 0), 10);
        check.due("20: whose(0) at 939", x.whose(0), 1);
        check.due("41: read(0) at 939", x.read(0), 0);
        x.nights(1);
        check.due("19: meets(1, 0) at 940", x.meets(1, 0), Check.STATE);
        check.due("20: whose(0) at 940", x.whose(0), Check.STATE);
        check.due("41: read(0) at 940", x.read(0), Check.STATE);
        Check.waitUntil(x, 999);
        check.due("18: comes(1, 8) at 999", x.comes(1, 8), 11);
        check.due("15: on(1, 0) at 999", x.on(1, 0), 47);
    }
}
