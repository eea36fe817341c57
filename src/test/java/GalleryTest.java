/** Promises 7 to 14: gallery, of, turn, become, as, does, nights, now. */
public final class GalleryTest {
    private static final Check check = new Check();

    public static void main(String[] args) {
        gallery();
        newWhereOneWas();
        turn();
        become();
        as();
        does();
        nightsOfDigging();
        nightsOfLosses();
        met();
        nightsBounds();
        check.end();
    }

    private static void of(PeasDrum x, String at, int gallery, int... due) {
        for (int what = 0; what < due.length; what++) {
            String call = at + ", of(" + gallery + ", " + what + ")";
            check.due(call, x.of(gallery, what), due[what]);
        }
    }

    private static void gallery() {
        PeasDrum x = new PeasDrum();
        check.due("7: gallery(5, 1, 47, 3)", x.gallery(5, 1, 47, 3), 0);
        check.due("7: gallery(0, 0, 0, 0)", x.gallery(0, 0, 0, 0), 1);
        of(x, "8: new", 0, 5, 1, 47, 3, 0, 0);
        of(x, "8: new", 1, 0, 0, 0, 0, 0, 0);
        check.due("7: gallery(-1, ..)", x.gallery(-1, 0, 0, 0), Check.BEYOND);
        check.due("7: gallery(6, ..)", x.gallery(6, 0, 0, 0), Check.BEYOND);
        check.due("7: gallery(0, -1, ..)", x.gallery(0, -1, 0, 0), Check.BEYOND);
        check.due("7: gallery(0, 2, ..)", x.gallery(0, 2, 0, 0), Check.BEYOND);
        check.due("7: gallery(0, 0, -1, 0)", x.gallery(0, 0, -1, 0), Check.BEYOND);
        check.due("7: gallery(0, 0, 48, 0)", x.gallery(0, 0, 48, 0), Check.BEYOND);
        check.due("7: gallery(0, 0, 0, -1)", x.gallery(0, 0, 0, -1), Check.BEYOND);
        check.due("7: gallery(0, 0, 0, 4)", x.gallery(0, 0, 0, 4), Check.BEYOND);
        check.due("7: count(0)", x.count(0), 2);
        for (int i = 2; i < 10; i++) {
            check.due("7: gallery " + i, x.gallery(i % 6, i % 2, i, i % 4), i);
        }
        check.due("7: an 11th", x.gallery(0, 0, 0, 0), Check.FULL);
        check.due("7: an 11th, BEYOND first", x.gallery(0, 0, 0, 4), Check.BEYOND);
        of(x, "8: last", 9, 3, 1, 9, 1, 0, 0);
        check.due("8: of(-1, 0)", x.of(-1, 0), Check.BEYOND);
        check.due("8: of(10, 0)", x.of(10, 0), Check.BEYOND);
        check.due("8: of(0, -1)", x.of(0, -1), Check.BEYOND);
        check.due("8: of(0, 6)", x.of(0, 6), Check.BEYOND);
        check.due("8: status(0)", x.status(0), 13);
        check.due("8: status(1)", x.status(1), 1);
    }

    private static void newWhereOneWas() {
        PeasDrum x = new PeasDrum();
        x.image();
        x.gallery(1, 0, 20, 1);
        x.nights(1);
        x.blow(20, 1);
        x.undo();
        x.gallery(0, 1, 3, 2);
        of(x, "7: nothing of one that was undone", 0, 0, 1, 3, 2, 0, 0);
    }

    private static void turn() {
        PeasDrum x = new PeasDrum();
        x.gallery(1, 0, 20, 1);
        x.nights(1);
        check.due("9: DONE", x.of(0, 4), 1);
        check.due("9: turn(0, 1), the same", x.turn(0, 1), 1);
        check.due("9: DONE stays", x.of(0, 4), 1);
        check.due("9: turn(0, 3)", x.turn(0, 3), 1);
        of(x, "9: turned", 0, 1, 0, 20, 3, 0, 0);
        check.due("9: turn(0, 4)", x.turn(0, 4), Check.BEYOND);
        check.due("9: turn(0, -1)", x.turn(0, -1), Check.BEYOND);
        check.due("9: turn(1, 0)", x.turn(1, 0), Check.BEYOND);
        check.due("9: turn(-1, 0)", x.turn(-1, 0), Check.BEYOND);
        x.blow(20, 1);
        check.due("9: turn of a LOST one", x.turn(0, 0), Check.STATE);
        check.due("9: of a LOST one the same way", x.turn(0, 3), Check.STATE);
        check.due("9: BEYOND ahead of STATE", x.turn(0, 9), Check.BEYOND);
        check.due("9: WAY stays", x.of(0, 3), 3);
    }

    private static void become() {
        PeasDrum x = new PeasDrum();
        x.ground(21, 2);
        x.gallery(0, 0, 20, 1);
        x.nights(2);
        check.due("10: become(0, 2)", x.become(0, 2), 0);
        of(x, "10: DONE stays", 0, 2, 0, 20, 1, 2, 0);
        check.due("10: become(0, 2)", x.become(0, 2), 2);
        x.nights(1);
        of(x, "10: more than its TIME was done", 0, 2, 0, 21, 1, 0, 0);
        check.due("10: become(0, 6)", x.become(0, 6), Check.BEYOND);
        check.due("10: become(0, -1)", x.become(0, -1), Check.BEYOND);
        check.due("10: become(1, 0)", x.become(1, 0), Check.BEYOND);
        check.due("10: become(-1, 0)", x.become(-1, 0), Check.BEYOND);
        x.blow(21, 30);
        check.due("10: of a LOST one", x.become(0, 5), 2);
        check.due("10: it is still LOST", x.of(0, 5), 1);
    }

    private static void as() {
        PeasDrum x = new PeasDrum();
        int[] under = {0b000001, 0b000011, 0b000101, 0b001011, 0b010101, 0b101011};
        for (int kind = 0; kind < 6; kind++) {
            x.gallery(kind, 0, 10 + kind, 0);
        }
        for (int gallery = 0; gallery < 6; gallery++) {
            for (int kind = 0; kind < 6; kind++) {
                boolean is = (under[gallery] >> kind & 1) == 1;
                check.due("11: as(" + gallery + ", " + kind + ")", x.as(gallery, kind),
                        is ? 10 + gallery : Check.KIND);
            }
        }
        check.due("11: status(2)", x.status(2), 36 - 15);
        check.due("11: as(6, 0)", x.as(6, 0), Check.BEYOND);
        check.due("11: as(-1, 0)", x.as(-1, 0), Check.BEYOND);
        check.due("11: as(0, 6)", x.as(0, 6), Check.BEYOND);
        check.due("11: as(0, -1)", x.as(0, -1), Check.BEYOND);
        x.blow(10, 1);
        check.due("11: as(0, 0), LOST", x.as(0, 0), 10);
    }

    private static void does() {
        int[][] times = {{1, 2, 4}, {2, 3, 5}, {1, 1, 2}, {2, 3, 5}, {1, 1, 2}, {2, 3, 3}};
        int[][] timesBelow = {{1, 2, 4}, {2, 3, 5}, {1, 1, 2}, {3, 4, 6}, {1, 1, 2}, {3, 4, 3}};
        int[][] louds = {{12, 8, 20, 0}, {10, 6, 18, 0}, {6, 4, 10, 0}, {5, 3, 9, 0},
            {18, 12, 30, 0}, {5, 3, 9, 0}};
        int[] firmInSand = {0, 1, 0, 1, 0, 1};
        PeasDrum x = new PeasDrum();
        for (int stuff = 0; stuff < 4; stuff++) {
            x.ground(stuff, stuff);
            x.ground(8 + stuff, stuff);
            x.wall(8 + stuff, true);
        }
        for (int k = 0; k < 6; k++) {
            x.gallery(k, k % 2, 40, 0);
            for (int stuff = 0; stuff < 4; stuff++) {
                String of = " of " + k + " in " + stuff;
                int time = stuff < 3 ? times[k][stuff] : Check.NONE;
                int timeBelow = stuff < 3 ? timesBelow[k][stuff] : Check.NONE;
                int firm = stuff == 1 ? firmInSand[k] : 1;
                check.due("12: TIME" + of, x.does(k, stuff, 0), time);
                check.due("12: TIME below the WALL" + of, x.does(k, 8 + stuff, 0), timeBelow);
                check.due("12: LOUD" + of, x.does(k, stuff, 1), louds[k][stuff]);
                check.due("12: LOUD below the WALL" + of, x.does(k, 8 + stuff, 1), louds[k][stuff]);
                check.due("12: FIRM" + of, x.does(k, stuff, 2), firm);
                check.due("12: FIRM below the WALL" + of, x.does(k, 8 + stuff, 2), firm);
            }
        }
        check.due("12: status(3)", x.status(3), 12);
        check.due("12: does(6, 0, 0)", x.does(6, 0, 0), Check.BEYOND);
        check.due("12: does(-1, 0, 0)", x.does(-1, 0, 0), Check.BEYOND);
        check.due("12: does(0, 48, 0)", x.does(0, 48, 0), Check.BEYOND);
        check.due("12: does(0, -1, 0)", x.does(0, -1, 0), Check.BEYOND);
        check.due("12: does(0, 0, 3)", x.does(0, 0, 3), Check.BEYOND);
        check.due("12: does(0, 3, -1), BEYOND for WATER too", x.does(0, 3, -1), Check.BEYOND);
        x.blow(40, 1);
        check.due("12: of a LOST one", x.does(0, 2, 0), 4);
    }

    private static void nightsOfDigging() {
        PeasDrum x = new PeasDrum();
        x.gallery(0, 0, 17, 0);
        x.gallery(1, 0, 20, 1);
        x.gallery(5, 0, 44, 3);
        x.gallery(2, 0, 31, 2);
        x.ground(43, 2);
        check.due("13: nights(1)", x.nights(1), 0);
        of(x, "13: GALLERY in CLAY", 0, 0, 0, 9, 0, 0, 0);
        of(x, "13: PROPPED in CLAY", 1, 1, 0, 20, 1, 1, 0);
        of(x, "13: DEEP in ROCK", 2, 5, 0, 44, 3, 1, 0);
        of(x, "13: SAP down", 3, 2, 0, 39, 2, 0, 0);
        check.due("13: nights(2)", x.nights(2), 0);
        of(x, "13: it rests at the edge", 0, 0, 0, 1, 0, 0, 0);
        of(x, "13: PROPPED", 1, 1, 0, 21, 1, 1, 0);
        of(x, "13: DEEP through ROCK", 2, 5, 0, 43, 3, 0, 0);
        of(x, "13: SAP rests below", 3, 2, 0, 47, 2, 0, 0);
        check.due("13: nights(60)", x.nights(60), 0);
        of(x, "13: PROPPED rests", 1, 1, 0, 23, 1, 0, 0);
        of(x, "13: DEEP rests at the left", 2, 5, 0, 40, 3, 0, 0);
        check.due("14: now(0)", x.now(0), 63);
        check.due("14: now(1)", x.now(1), 4);
        x.ground(23, 3);
        x.gallery(0, 1, 23, 1);
        check.due("13: a HEAD in WATER is no loss, but MET is", x.nights(1), 1);
        of(x, "13: MET", 1, 1, 0, 23, 1, 0, 1);
    }

    private static void nightsOfLosses() {
        PeasDrum x = new PeasDrum();
        x.ground(10, 3);
        x.ground(12, 1);
        x.ground(14, 1);
        x.ground(39, 1);
        x.gallery(0, 0, 2, 2);
        x.gallery(0, 0, 4, 2);
        x.gallery(3, 0, 6, 2);
        x.gallery(4, 1, 39, 2);
        check.due("13: WATER ahead", x.nights(1), 1);
        of(x, "13: LOST by WATER, where it was", 0, 0, 0, 2, 2, 0, 1);
        of(x, "13: not yet in SAND", 1, 0, 0, 4, 2, 1, 0);
        of(x, "13: not FIRM where it began is nothing", 3, 4, 1, 47, 2, 0, 0);
        check.due("13: SAND", x.nights(1), 1);
        of(x, "13: LOST in SAND, where it came", 1, 0, 0, 12, 2, 0, 1);
        check.due("13: propped in SAND", x.nights(1), 0);
        of(x, "13: propped in SAND", 2, 3, 0, 14, 2, 0, 0);
        check.due("14: now(1)", x.now(1), 1);
        check.due("14: now(2)", x.now(2), 1);
        check.due("14: now(3), none was MET", x.now(3), 0);
        x.ground(22, 3);
        x.nights(2);
        check.due("13: ground that changed ahead", x.of(2, 5), 1);
        of(x, "13: a LOST one digs no more", 1, 0, 0, 12, 2, 0, 1);
    }

    private static void met() {
        PeasDrum x = new PeasDrum();
        x.gallery(0, 0, 0, 1);
        x.gallery(0, 1, 4, 3);
        x.gallery(0, 0, 47, 1);
        check.due("13: not yet BESIDE", x.nights(1), 0);
        check.due("13: on one another", x.nights(1), 1);
        of(x, "13: MET", 0, 0, 0, 2, 1, 0, 1);
        of(x, "13: ours goes on", 1, 0, 1, 2, 3, 0, 0);
        check.due("14: now(3)", x.now(3), 1);
        check.due("14: now(1)", x.now(1), 1);
        x.gallery(1, 0, 26, 2);
        x.gallery(1, 1, 27, 1);
        x.gallery(1, 0, 35, 0);
        check.due("13: BESIDE, two at once", x.nights(1), 2);
        check.due("14: now(3)", x.now(3), 3);
        x.gallery(1, 0, 36, 0);
        x.gallery(1, 0, 23, 1);
        x.gallery(1, 1, 24, 3);
        check.due("13: BESIDE behind a move, not over the edge", x.nights(1), 1);
        of(x, "13: MET behind its move", 6, 1, 0, 36, 0, 1, 1);
        of(x, "13: 23 and 24 are not BESIDE", 7, 1, 0, 23, 1, 0, 0);
        check.due("14: now(3)", x.now(3), 4);
        PeasDrum y = new PeasDrum();
        y.gallery(0, 0, 9, 0);
        y.gallery(0, 1, 10, 2);
        y.ground(18, 3);
        check.due("13: ours, LOST ahead of it, meets none", y.nights(1), 1);
        check.due("13: which", y.of(1, 5), 1);
        y.gallery(0, 1, 9, 2);
        y.gallery(0, 0, 0, 3);
        y.ground(0, 0);
        check.due("13: apart by a corner", y.nights(1), 0);
        check.due("14: now(4)", y.now(4), Check.BEYOND);
        check.due("14: now(-1)", y.now(-1), Check.BEYOND);
        check.due("14: now(2)", y.now(2), 1);
    }

    private static void nightsBounds() {
        PeasDrum x = new PeasDrum();
        check.due("13: nights(0)", x.nights(0), Check.BEYOND);
        check.due("13: nights(61)", x.nights(61), Check.BEYOND);
        check.due("13: nights(-1)", x.nights(-1), Check.BEYOND);
        Check.waitUntil(x, 990);
        check.due("13: nights(10)", x.nights(10), Check.STATE);
        check.due("13: BEYOND ahead of STATE", x.nights(61), Check.BEYOND);
        check.due("13: nights(9)", x.nights(9), 0);
        check.due("13: nights(1)", x.nights(1), Check.STATE);
        check.due("14: now(0)", x.now(0), 999);
        check.due("13: status(4)", x.status(4), 2);
    }
}
