/** Promises 15 to 20: on, lost, first, comes, meets, whose. */
public final class OnTest {
    private static final Check check = new Check();

    public static void main(String[] args) {
        on();
        lost();
        first();
        firstOfLostOnes();
        comes();
        meets();
        whose();
        lateNights();
        check.end();
    }

    private static void on() {
        PeasDrum x = new PeasDrum();
        x.gallery(1, 0, 0, 1);
        x.gallery(0, 1, 47, 3);
        check.due("15: on(0, 0)", x.on(0, 0), 0);
        check.due("15: on(0, 1)", x.on(0, 1), 0);
        check.due("15: on(0, 4)", x.on(0, 4), 2);
        check.due("15: on(0, 99)", x.on(0, 99), 7);
        check.due("15: on(1, 99)", x.on(1, 99), 40);
        check.due("15: nothing changes", x.of(0, 2) + x.of(0, 4) + x.now(0), 0);
        check.due("15: on(0, 100)", x.on(0, 100), Check.BEYOND);
        check.due("15: on(0, -1)", x.on(0, -1), Check.BEYOND);
        check.due("15: on(2, 0)", x.on(2, 0), Check.BEYOND);
        check.due("15: on(-1, 0)", x.on(-1, 0), Check.BEYOND);
        x.ground(3, 3);
        check.due("15: LOST on the way, it stays there", x.on(0, 50), 2);
        x.nights(60);
        check.due("15: of a LOST one", x.on(0, 5), 2);
    }

    private static void lost() {
        PeasDrum x = new PeasDrum();
        x.gallery(0, 0, 0, 1);
        check.due("16: never", x.lost(0), Check.NONE);
        x.ground(7, 1);
        check.due("16: in SAND", x.lost(0), 8);
        x.ground(7, 3);
        check.due("16: by WATER", x.lost(0), 7);
        x.gallery(0, 1, 19, 0);
        check.due("16: MET", x.lost(0), 2);
        check.due("16: ours isn't", x.lost(1), Check.NONE);
        check.due("16: nothing changes", x.now(0) + x.of(0, 2) + x.of(0, 5), 0);
        x.nights(2);
        check.due("16: it is LOST", x.lost(0), Check.STATE);
        check.due("16: lost(2)", x.lost(2), Check.BEYOND);
        check.due("16: lost(-1)", x.lost(-1), Check.BEYOND);
        check.due("16: status(3), status(4)", 10 * x.status(3) + x.status(4), 21);
    }

    private static void first() {
        PeasDrum x = new PeasDrum();
        x.gallery(0, 1, 8, 1);
        x.gallery(1, 0, 16, 1);
        x.gallery(0, 0, 32, 1);
        x.gallery(2, 0, 40, 1);
        check.due("17: no WALL", x.first(), Check.NONE);
        for (int row = 0; row < 6; row++) {
            x.wall(8 * row + 6, true);
        }
        check.due("17: of several the least, none of ours", x.first(), 2);
        x.wall(17, true);
        check.due("17: sooner", x.first(), 1);
        x.wall(40, true);
        check.due("17: now", x.first(), 3);
        check.due("17: nothing changes", x.now(0), 0);
        PeasDrum y = new PeasDrum();
        y.gallery(0, 0, 0, 1);
        y.wall(4, true);
        y.ground(3, 3);
        check.due("17: LOST ahead of it", y.first(), Check.NONE);
        y.ground(3, 0);
        y.gallery(0, 1, 3, 3);
        check.due("17: MET ahead of it", y.first(), Check.NONE);
        PeasDrum z = new PeasDrum();
        for (int column = 1; column < 8; column++) {
            z.ground(column, 2);
        }
        z.gallery(3, 0, 0, 1);
        z.wall(7, true);
        check.due("17: in 36 NIGHTS", z.first(), 0);
        check.due("17: in 36", z.on(0, 36), 7);
        check.due("17: in 35", z.on(0, 35), 6);
    }

    /** The document doesn't leave LOST ones out here: their HEAD stays where it was. */
    private static void firstOfLostOnes() {
        PeasDrum x = new PeasDrum();
        x.gallery(0, 0, 0, 1);
        x.wall(1, true);
        x.ground(1, 1);
        check.due("17: LOST as it comes below the WALL", x.first(), 0);
        x.nights(2);
        check.due("17: it is LOST there", x.of(0, 5), 1);
        check.due("17: LOST below the WALL", x.first(), 0);
    }

    private static void comes() {
        PeasDrum x = new PeasDrum();
        x.gallery(0, 1, 0, 0);
        x.gallery(1, 1, 0, 0);
        x.gallery(0, 0, 0, 0);
        check.due("18: comes(0, 0)", x.comes(0, 0), 0);
        check.due("18: comes(0, 47)", x.comes(0, 47), 12);
        check.due("18: comes(1, 47)", x.comes(1, 47), 24);
        x.ground(1, 1);
        x.ground(8, 3);
        check.due("18: shut in by SAND and WATER", x.comes(0, 47), Check.NONE);
        check.due("18: to SAND", x.comes(0, 1), Check.NONE);
        check.due("18: propped through SAND", x.comes(1, 47), 25);
        check.due("18: propped, to WATER", x.comes(1, 8), Check.NONE);
        x.ground(0, 3);
        check.due("18: its own HEAD, in WATER", x.comes(0, 0), 0);
        check.due("18: out of WATER", x.comes(1, 1), 3);
        x.ground(2, 2);
        x.ground(9, 2);
        check.due("18: ROCK", x.comes(1, 2), 8);
        x.become(1, 5);
        check.due("18: DEEP", x.comes(1, 2), 6);
        x.wall(1, true);
        check.due("18: DEEP below the WALL", x.comes(1, 2), 7);
        check.due("18: comes(2, 0), theirs", x.comes(2, 0), Check.STATE);
        check.due("18: comes(3, 0)", x.comes(3, 0), Check.BEYOND);
        check.due("18: comes(-1, 0)", x.comes(-1, 0), Check.BEYOND);
        check.due("18: comes(0, 48)", x.comes(0, 48), Check.BEYOND);
        check.due("18: comes(2, -1), BEYOND ahead of STATE", x.comes(2, -1), Check.BEYOND);
        PeasDrum y = new PeasDrum();
        y.ground(1, 2);
        y.gallery(0, 1, 0, 1);
        y.nights(3);
        check.due("18: DONE is forgotten", y.comes(0, 1), 4);
        y.blow(0, 1);
        check.due("18: LOST", y.comes(0, 1), Check.STATE);
    }

    private static void meets() {
        PeasDrum x = new PeasDrum();
        x.gallery(0, 1, 40, 3);
        x.gallery(1, 0, 0, 1);
        x.gallery(0, 0, 32, 3);
        check.due("19: BESIDE now", x.meets(0, 2), 0);
        check.due("19: meets(0, 1)", x.meets(0, 1), 7);
        check.due("19: theirs isn't ours", x.meets(1, 0), Check.STATE);
        check.due("19: both ours", x.meets(0, 0), Check.STATE);
        check.due("19: both theirs", x.meets(1, 2), Check.STATE);
        check.due("19: meets(3, 1)", x.meets(3, 1), Check.BEYOND);
        check.due("19: meets(0, 3)", x.meets(0, 3), Check.BEYOND);
        check.due("19: meets(-1, 1)", x.meets(-1, 1), Check.BEYOND);
        check.due("19: meets(0, -1)", x.meets(0, -1), Check.BEYOND);
        x.gallery(0, 1, 4, 3);
        check.due("19: others of ours do not matter", x.meets(0, 1), 7);
        check.due("19: nothing changes", x.now(0) + x.of(1, 2) + x.of(1, 4), 0);
        x.ground(3, 3);
        check.due("19: just before WATER takes it", x.meets(3, 1), 4);
        x.ground(2, 3);
        check.due("19: too late, WATER has taken it", x.meets(3, 1), Check.NONE);
        x.nights(1);
        check.due("19: theirs is LOST", x.meets(0, 2), Check.STATE);
        slowMeeting();
        nearMeeting();
        lastMeeting();
    }

    private static void nearMeeting() {
        int[] cells = {20, 12, 21, 28, 19};
        for (int cell : cells) {
            PeasDrum x = new PeasDrum();
            for (int c = 0; c < 48; c++) {
                x.ground(c, 3);
            }
            x.gallery(0, 1, cell, 0);
            x.gallery(0, 0, 20, 0);
            check.due("19: at " + cell + ", on it or BESIDE it", x.meets(0, 1), 0);
            check.due("20: at " + cell + ", by number 0", x.whose(1), 0);
        }
        PeasDrum y = new PeasDrum();
        for (int i = 0; i < 9; i++) {
            y.gallery(0, 0, 20, 0);
        }
        y.gallery(0, 1, 47, 0);
        check.due("20: by number 9", y.whose(8), 9);
        check.due("19: by number 9", y.meets(9, 8), 7);
    }

    /** Ten cells of 6 nights each are 60; eleven are too many. */
    private static void lastMeeting() {
        PeasDrum x = new PeasDrum();
        for (int c = 0; c < 48; c++) {
            x.ground(c, 2);
            x.wall(c, true);
        }
        x.gallery(3, 1, 0, 0);
        x.gallery(0, 0, 46, 2);
        x.gallery(0, 0, 47, 2);
        check.due("18: may be later", x.comes(0, 47), 72);
        check.due("19: in 60", x.meets(0, 1), 60);
        check.due("20: in 60", x.whose(1), 0);
        check.due("19: not in 66", x.meets(0, 2), Check.NONE);
        check.due("20: not in 66", x.whose(2), Check.NONE);
    }

    private static void slowMeeting() {
        PeasDrum x = new PeasDrum();
        for (int column = 0; column < 8; column++) {
            x.ground(column, 2);
            x.ground(8 + column, 3);
            x.wall(column, true);
        }
        x.gallery(3, 1, 0, 0);
        x.gallery(0, 0, 7, 1);
        check.due("19: 6 cells of 6 nights", x.meets(0, 1), 36);
        x.turn(1, 3);
        check.due("19: towards one another", x.meets(0, 1), 16);
        x.ground(4, 3);
        check.due("19: theirs is LOST in WATER", x.meets(0, 1), Check.NONE);
        PeasDrum y = new PeasDrum();
        y.gallery(5, 1, 0, 1);
        y.gallery(0, 0, 2, 1);
        y.ground(1, 2);
        y.nights(2);
        check.due("19: DONE is forgotten", y.meets(0, 1), 13);
    }

    private static void whose() {
        PeasDrum x = new PeasDrum();
        x.gallery(0, 0, 0, 0);
        check.due("20: none of ours", x.whose(0), Check.NONE);
        x.gallery(0, 1, 47, 0);
        x.gallery(0, 1, 31, 0);
        x.gallery(0, 1, 31, 3);
        x.gallery(1, 1, 20, 0);
        check.due("20: of several the least", x.whose(0), 2);
        check.due("20: how soon", x.meets(2, 0), 9);
        check.due("20: how soon", x.meets(4, 0), 10);
        x.become(4, 0);
        check.due("20: sooner", x.whose(0), 4);
        check.due("20: ours", x.whose(1), Check.STATE);
        check.due("20: whose(5)", x.whose(5), Check.BEYOND);
        check.due("20: whose(-1)", x.whose(-1), Check.BEYOND);
        x.blow(20, 1);
        check.due("20: a LOST one of ours meets none", x.whose(0), 2);
        x.ground(1, 3);
        x.ground(8, 3);
        x.ground(2, 3);
        x.ground(9, 3);
        x.ground(16, 3);
        check.due("20: none can", x.whose(0), Check.NONE);
        x.blow(0, 1);
        check.due("20: LOST", x.whose(0), Check.STATE);
    }

    private static void lateNights() {
        PeasDrum x = new PeasDrum();
        x.gallery(0, 0, 0, 0);
        x.gallery(0, 1, 47, 2);
        x.sheet(0, 8, 1);
        Check.waitUntil(x, 900);
        check.due("15: on(0, 99) at 900", x.on(0, 99), 0);
        check.due("16: lost(0) at 900", x.lost(0), Check.NONE);
        check.due("17: first() at 900", x.first(), Check.NONE);
        x.nights(1);
        check.due("15: on(0, 99) at 901", x.on(0, 99), Check.STATE);
        check.due("15: on(0, 98) at 901", x.on(0, 98), 0);
        check.due("16: lost(0) at 901", x.lost(0), Check.STATE);
        check.due("17: first() at 901", x.first(), Check.STATE);
        Check.waitUntil(x, 939);
        check.due("19: meets(1, 0) at 939", x.meets(1, 0), 11);
        check.due("20: whose(0) at 939", x.whose(0), 1);
        check.due("41: read(0) at 939", x.read(0), 0);
        x.nights(1);
        check.due("19: meets(1, 0) at 940", x.meets(1, 0), Check.STATE);
        check.due("20: whose(0) at 940", x.whose(0), Check.STATE);
        check.due("41: read(0) at 940", x.read(0), Check.STATE);
        check.due("18: comes(1, 0) at 940", x.comes(1, 0), 12);
        Check.waitUntil(x, 999);
        check.due("15: on(0, 0) at 999", x.on(0, 0), 0);
        check.due("15: on(0, 1) at 999", x.on(0, 1), Check.STATE);
    }
}
