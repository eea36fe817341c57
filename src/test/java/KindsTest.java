/** What the document says of GALLERIES holds for those of each KIND and SIDE. */
public final class KindsTest {
    private static final Check check = new Check();
    private static final int KINDS = 6;
    private static final int CLAY = 0;
    private static final int SAND = 1;
    private static final int ROCK = 2;
    private static final int WATER = 3;
    /** By KIND, then CLAY, SAND, ROCK. */
    private static final int[][] TIMES = {{1, 2, 4}, {2, 3, 5}, {1, 1, 2}, {2, 3, 5}, {1, 1, 2}, {2, 3, 3}};
    private static final int[][] TIMES_BELOW_WALL =
        {{1, 2, 4}, {2, 3, 5}, {1, 1, 2}, {3, 4, 6}, {1, 1, 2}, {3, 4, 3}};
    private static final boolean[] FIRM_IN_SAND = {false, true, false, true, false, true};

    public static void main(String[] args) {
        eachMeetsEach();
        eachIsBlown();
        eachIsLost();
        eachIsFirst();
        eachComes();
        eachCanMeetEach();
        eachIsFoundWhereItIs();
        eachTurnsAndGoesOn();
        check.end();
    }

    private static void eachMeetsEach() {
        for (int ours = 0; ours < KINDS; ours++) {
            for (int theirs = 0; theirs < KINDS; theirs++) {
                PeasDrum x = new PeasDrum();
                x.gallery(theirs, 0, 1, 0);
                x.gallery(ours, 1, 0, 0);
                String pair = ours + " and " + theirs;
                check.due("16: of " + pair, x.lost(0), 1);
                check.due("16: ours, of " + pair, x.lost(1), Check.NONE);
                check.due("13: MET, of " + pair, x.nights(1), 1);
                check.due("14: MET, of " + pair, x.now(3), 1);
                check.due("14: theirs, of " + pair, x.now(1), 0);
                check.due("14: ours, of " + pair, x.now(2), 1);
            }
        }
    }

    private static void eachIsBlown() {
        for (int kind = 0; kind < KINDS; kind++) {
            for (int stuff = 0; stuff < 4; stuff++) {
                for (int side = 0; side < 2; side++) {
                    PeasDrum x = new PeasDrum();
                    x.ground(20, stuff);
                    x.gallery(kind, side, 20, 0);
                    int enough = stuff == ROCK ? 5 : 1;
                    String which = kind + " of " + side + " in " + stuff;
                    if (enough > 1) {
                        check.due("28: too weak for " + which, x.blow(20, enough - 1), 0);
                    }
                    check.due("28: " + which, x.blow(20, enough), 1);
                    check.due("8: LOST, " + which, x.of(0, 5), 1);
                    check.due("28: once, " + which, x.blow(20, 30), 0);
                }
            }
        }
    }

    private static void eachIsLost() {
        for (int kind = 0; kind < KINDS; kind++) {
            for (int side = 0; side < 2; side++) {
                PeasDrum x = new PeasDrum();
                Check.siege(x, "water 1;sand 9");
                x.gallery(kind, side, 0, 1);
                x.gallery(kind, side, 8, 1);
                String which = kind + " of " + side;
                check.due("16: by WATER, " + which, x.lost(0), 1);
                int inSand = FIRM_IN_SAND[kind] ? Check.NONE : TIMES[kind][SAND];
                check.due("16: by SAND, " + which, x.lost(1), inSand);
            }
        }
    }

    private static void eachIsFirst() {
        for (int kind = 0; kind < KINDS; kind++) {
            for (int stuff = CLAY; stuff < WATER; stuff++) {
                PeasDrum x = new PeasDrum();
                x.ground(1, stuff);
                x.wall(1, true);
                x.gallery(kind, 1, 0, 1);
                String which = kind + " in " + stuff;
                check.due("17: ours alone, " + which, x.first(), Check.NONE);
                x.gallery(kind, 0, 17, 0);
                x.gallery(kind, 0, 1, 0);
                check.due("17: at once, " + which, x.first(), 2);
            }
            PeasDrum y = new PeasDrum();
            y.wall(15, true);
            y.gallery(kind, 0, 12, 1);
            check.due("17: in some nights, " + kind, y.first(), 0);
        }
    }

    private static void eachComes() {
        for (int kind = 0; kind < KINDS; kind++) {
            for (int stuff = 0; stuff < 4; stuff++) {
                for (int walled = 0; walled < 2; walled++) {
                    PeasDrum x = new PeasDrum();
                    x.ground(1, stuff);
                    x.wall(1, walled == 1);
                    x.gallery(kind, 1, 0, 3);
                    boolean can = stuff != WATER && (stuff != SAND || FIRM_IN_SAND[kind]);
                    int[][] times = walled == 1 ? TIMES_BELOW_WALL : TIMES;
                    String which = kind + " into " + stuff + ", " + walled;
                    check.due("18: " + which, x.comes(0, 1), can ? times[kind][stuff] : Check.NONE);
                    check.due("18: stays, " + which, x.comes(0, 0), 0);
                }
            }
        }
    }

    private static void eachCanMeetEach() {
        for (int ours = 0; ours < KINDS; ours++) {
            for (int theirs = 0; theirs < KINDS; theirs++) {
                PeasDrum x = new PeasDrum();
                // Theirs rests at the edge, so that ours alone is waited for.
                x.gallery(theirs, 0, 0, 0);
                x.gallery(ours, 1, 7, 0);
                String pair = ours + " and " + theirs;
                check.due("19: " + pair, x.meets(1, 0), 6 * TIMES[ours][CLAY]);
                check.due("20: " + pair, x.whose(0), 1);
                x.turn(0, 1);
                check.due("19: towards one another, " + pair, x.meets(1, 0), nightsBetween(ours, theirs));
            }
        }
    }

    /** Theirs goes on from CELL 0 along the ROW, ours comes from CELL 7 to the CELL ahead of it. */
    private static int nightsBetween(int ours, int theirs) {
        int n = 0;
        while ((6 - n / TIMES[theirs][CLAY]) * TIMES[ours][CLAY] > n) {
            n++;
        }
        return n;
    }

    private static void eachIsFoundWhereItIs() {
        for (int kind = 0; kind < KINDS; kind++) {
            for (int stuff = SAND; stuff < WATER; stuff++) {
                PeasDrum x = new PeasDrum();
                x.ground(20, stuff);
                x.dish(20);
                x.gallery(kind, 0, 20, 0);
                String which = kind + " in " + stuff;
                check.due("25: " + which, x.where(kind), Check.set(20));
                check.due("26: one place is left by any CELL, " + which, x.best(kind), 0);
                x.wall(20, true);
                check.due("25: below the WALL, " + which, x.where(kind), Check.set(20));
            }
        }
    }

    private static void eachTurnsAndGoesOn() {
        for (int kind = 0; kind < KINDS; kind++) {
            for (int side = 0; side < 2; side++) {
                PeasDrum x = new PeasDrum();
                x.gallery(kind, side, 20, 1);
                String which = kind + " of " + side;
                check.due("9: " + which, x.turn(0, 2), 1);
                check.due("15: not yet, " + which, x.on(0, TIMES[kind][CLAY] - 1), 20);
                check.due("15: " + which, x.on(0, TIMES[kind][CLAY]), 28);
                check.due("15: twice, " + which, x.on(0, 2 * TIMES[kind][CLAY]), 36);
                check.due("15: far on, " + which, x.on(0, 99), 44);
            }
        }
    }
}
