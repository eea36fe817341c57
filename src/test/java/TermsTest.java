/** What stands under 'Terms', 1: cells, ways, kinds, nights, sound, bread; each case that there is. */
public final class TermsTest {
    private static final Check check = new Check();
    private static final int SAND = 1;
    private static final int WATER = 3;
    /** By KIND, then CLAY, SAND, ROCK. */
    private static final int[][] TIMES = {{1, 2, 4}, {2, 3, 5}, {1, 1, 2}, {2, 3, 5}, {1, 1, 2}, {2, 3, 3}};
    private static final int[][] TIMES_BELOW_WALL =
        {{1, 2, 4}, {2, 3, 5}, {1, 1, 2}, {3, 4, 6}, {1, 1, 2}, {3, 4, 3}};
    /** By KIND, then CLAY, SAND, ROCK, WATER. */
    private static final int[][] LOUDS = {{12, 8, 20, 0}, {10, 6, 18, 0}, {6, 4, 10, 0}, {5, 3, 9, 0},
        {18, 12, 30, 0}, {5, 3, 9, 0}};
    private static final boolean[] FIRM_IN_SAND = {false, true, false, true, false, true};
    private static final int[] CARRIES = {1, 2, 1, 4};

    public static void main(String[] args) {
        findings();
        setsOfBits();
        waysOfEachCell();
        digsAsLongAsItsTime();
        waterAhead();
        doneIsKept();
        doneOrMore();
        firmOnlyWhereItComes();
        metFromEachCell();
        metAtTheEdges();
        metBehindAllDigging();
        metOnlyByThoseLeft();
        metCountsOnce();
        asManyMetAsCanBe();
        nightsAreCounted();
        farOfEachCell();
        farIntoEachStuff();
        farthest();
        heardInEachStuff();
        heardFromFarther();
        check.end();
    }

    private static PeasDrum told(String text) {
        PeasDrum x = new PeasDrum();
        check.isTrue("'" + text + "' is right", Check.siege(x, text) > 0);
        return x;
    }

    private static int apart(int a, int b) {
        return Math.abs(a / 8 - b / 8) + Math.abs(a % 8 - b % 8);
    }

    private static int ahead(int cell, int way) {
        int row = cell / 8 + new int[] {-1, 0, 1, 0}[way];
        int column = cell % 8 + new int[] {0, 1, 0, -1}[way];
        return row < 0 || row > 5 || column < 0 || column > 7 ? -1 : 8 * row + column;
    }

    /** The numbers of the findings, in longs too. */
    private static void findings() {
        PeasDrum x = told("dish 0;dish 0;dish 0;dish 0;dish 0;dish 0;dish 0;dish 0;dish 0");
        x.gallery(0, 0, 0, 0);
        check.due("BEYOND", x.ground(48, 0), -1000000001);
        check.due("FULL", x.dish(0), -1000000002);
        check.due("KIND", x.as(0, 1), -1000000003);
        check.due("NONE", x.undo(), -1000000004);
        check.due("STATE", x.comes(0, 0), -1000000005);
        check.due("MISSING", x.book(0), -1000000006);
        check.due("SIZE", x.sheet(0, 8, -1), -1000000007);
        check.due("BEYOND in longs", x.write(4, 0, 0), -1000000001L);
        check.due("MISSING in longs", x.write(0, 0, 0), -1000000006L);
        check.due("BEYOND in longs", x.where(6), -1000000001L);
        check.due("NONE in longs", new PeasDrum().where(0), -1000000004L);
    }

    private static void setsOfBits() {
        for (int cell = 0; cell < 48; cell++) {
            PeasDrum x = new PeasDrum();
            x.wall(cell, true);
            check.due("walls() of " + cell, x.walls(), 1L << cell);
            // A DISH in ROCK that hears a GALLERY at its own CELL: nowhere else it is so loud.
            x.ground(cell, 2);
            x.dish(cell);
            x.gallery(0, 0, cell, 0);
            check.due("where(0) of " + cell, x.where(0), 1L << cell);
        }
    }

    private static void waysOfEachCell() {
        for (int cell = 0; cell < 48; cell++) {
            for (int way = 0; way < 4; way++) {
                String at = "from " + cell + " in WAY " + way;
                PeasDrum x = new PeasDrum();
                x.gallery(0, 0, cell, way);
                check.due(at + ", LOST", x.nights(1), 0);
                int there = ahead(cell, way);
                check.due(at + ", HEAD", x.of(0, 2), there < 0 ? cell : there);
                check.due(at + ", DONE", x.of(0, 4), 0);
                x.nights(60);
                check.due(at + ", it rests", x.of(0, 2),
                        new int[] {cell % 8, cell - cell % 8 + 7, 40 + cell % 8, cell - cell % 8}[way]);
                check.due(at + ", it is not LOST", x.of(0, 5), 0);
            }
        }
    }

    private static void digsAsLongAsItsTime() {
        for (int kind = 0; kind < 6; kind++) {
            for (int stuff = 0; stuff < 3; stuff++) {
                digs(kind, stuff, false, TIMES[kind][stuff]);
                digs(kind, stuff, true, TIMES_BELOW_WALL[kind][stuff]);
            }
        }
    }

    private static void digs(int kind, int stuff, boolean walled, int time) {
        String at = "KIND " + kind + " into " + stuff + (walled ? " below the WALL" : "");
        boolean firm = stuff != SAND || FIRM_IN_SAND[kind];
        PeasDrum x = new PeasDrum();
        x.ground(21, stuff);
        x.wall(21, walled);
        x.gallery(kind, 0, 20, 1);
        x.gallery(kind, 1, 29, 0);
        check.due(at + ", TIME", x.does(0, 21, 0), time);
        check.due(at + ", FIRM", x.does(0, 21, 2), firm ? 1 : 0);
        check.due(at + ", IN TIME", x.comes(1, 21), firm ? time : Check.NONE);
        x.blow(29, 1);
        for (int night = 1; night < time; night++) {
            check.due(at + ", LOST by night " + night, x.nights(1), 0);
            check.due(at + ", HEAD by night " + night, x.of(0, 2), 20);
            check.due(at + ", DONE by night " + night, x.of(0, 4), night);
        }
        check.due(at + ", LOST when it comes", x.nights(1), firm ? 0 : 1);
        check.due(at + ", HEAD when it comes", x.of(0, 2), 21);
        check.due(at + ", DONE when it comes", x.of(0, 4), 0);
        check.due(at + ", LOST", x.of(0, 5), firm ? 0 : 1);
    }

    private static void waterAhead() {
        for (int kind = 0; kind < 6; kind++) {
            for (int way = 0; way < 4; way++) {
                PeasDrum x = new PeasDrum();
                x.ground(ahead(20, way), WATER);
                x.gallery(kind, 1, 20, way);
                check.due("WATER ahead of KIND " + kind, x.nights(1), 1);
                check.due("HEAD is where it was", x.of(0, 2), 20);
                check.due("DONE is what it was", x.of(0, 4), 0);
                check.due("LOST", x.of(0, 5), 1);
                check.due("LOST once", x.nights(5), 0);
            }
        }
        PeasDrum y = told("mine theirs at 20 way 1");
        y.nights(1);
        y.ground(21, WATER);
        y.nights(1);
        check.due("DONE stays when WATER comes", y.of(0, 4), 1);
        check.due("LOST when WATER comes", y.of(0, 5), 1);
        PeasDrum z = told("water 19 to 21");
        check.due("a HEAD in WATER", z.gallery(0, 0, 20, 0), 0);
        check.due("it digs out", z.nights(1), 0);
        check.due("HEAD", z.of(0, 2), 12);
    }

    private static void doneIsKept() {
        PeasDrum x = told("rock 21;propped theirs at 20 way 1");
        x.nights(4);
        check.due("DONE", x.of(0, 4), 4);
        x.become(0, 3);
        x.wall(21, true);
        x.nights(1);
        check.due("DONE, of 6 now", x.of(0, 4), 5);
        check.due("HEAD, of 6 now", x.of(0, 2), 20);
        x.nights(1);
        check.due("HEAD by 6", x.of(0, 2), 21);
        check.due("DONE begins anew", x.of(0, 4), 0);
    }

    /** Its TIME, or more: TIME may become less while it digs. */
    private static void doneOrMore() {
        PeasDrum x = told("rock 21;mine theirs at 20 way 1;mine theirs at 22 way 3");
        x.wall(21, true);
        x.nights(5);
        check.due("DONE", x.of(0, 4) + x.of(1, 4), 10);
        x.ground(21, 0);
        x.wall(21, false);
        check.due("TIME", x.does(0, 21, 0), 2);
        check.due("more than its TIME is lost by none", x.nights(1), 0);
        check.due("HEAD", x.of(0, 2), 21);
        check.due("DONE", x.of(0, 4), 0);
        check.due("HEAD of the other", x.of(1, 2), 21);
    }

    private static void firmOnlyWhereItComes() {
        PeasDrum x = told("sand 20 21 28;gallery theirs at 20 way 0;sap ours at 28 way 2");
        check.due("none is LOST where it begins, nor where it goes", x.nights(1), 0);
        x.ground(12, SAND);
        check.due("SAND below a HEAD is nothing", x.nights(1), 0);
        PeasDrum y = told("propped theirs at 20 way 1;sand 21");
        y.nights(3);
        y.become(0, 0);
        check.due("one that stands in SAND goes on", y.nights(1), 0);
        check.due("HEAD", y.of(0, 2), 22);
    }

    /** PROPPED ones, that are where they are for a night. */
    private static void metFromEachCell() {
        for (int theirs = 0; theirs < 48; theirs++) {
            for (int ours = 0; ours < 48; ours++) {
                PeasDrum x = new PeasDrum();
                x.gallery(1, 0, theirs, 0);
                x.gallery(1, 1, ours, 2);
                int met = apart(theirs, ours) <= 1 ? 1 : 0;
                check.due("MET at " + theirs + " by " + ours, x.nights(1), met);
                check.due("MET ever", x.now(3), met);
                check.due("LOST", x.of(0, 5), met);
                check.due("ours is not LOST", x.of(1, 5), 0);
            }
        }
    }

    private static void metAtTheEdges() {
        int[][] apart = {{7, 8}, {15, 16}, {39, 40}, {0, 40}, {7, 47}, {0, 7}};
        for (int[] cells : apart) {
            PeasDrum x = new PeasDrum();
            x.gallery(1, 0, cells[0], 0);
            x.gallery(1, 1, cells[1], 0);
            x.gallery(1, 0, cells[1] ^ 1, 1);
            check.due("not over the edge, " + cells[0] + " and " + cells[1], x.nights(1), 1);
            check.due("not over the edge", x.of(0, 5), 0);
        }
    }

    /** All dig first, whatever their numbers; then it is looked who is MET. */
    private static void metBehindAllDigging() {
        PeasDrum x = told("gallery theirs at 20 way 1;gallery ours at 19 way 3");
        check.due("BESIDE ahead, not behind", x.nights(1), 0);
        PeasDrum y = told("gallery theirs at 20 way 1;gallery ours at 23 way 3");
        check.due("BESIDE behind, not ahead", y.nights(1), 1);
        PeasDrum z = told("gallery ours at 23 way 3;gallery theirs at 20 way 1");
        check.due("the other number first", z.nights(1), 1);
        PeasDrum through = told("gallery ours at 21 way 3;gallery theirs at 20 way 1");
        check.due("HEADS that change places are BESIDE", through.nights(1), 1);
        PeasDrum far = told("gallery ours at 22 way 1;gallery theirs at 20 way 3");
        check.due("two apart, and more", far.nights(1), 0);
    }

    private static void metOnlyByThoseLeft() {
        PeasDrum x = told("propped theirs at 20 way 1;propped ours at 28 way 1");
        x.blow(28, 1);
        check.due("ours is LOST", x.nights(1), 0);
        PeasDrum y = told("propped theirs at 20 way 1;sap ours at 28 way 1;sand 29");
        check.due("ours is LOST in this night, two apart", y.nights(1), 1);
        PeasDrum z = told("propped theirs at 20 way 1;sap ours at 29 way 3;sand 28");
        check.due("ours is LOST BESIDE it", z.nights(1), 1);
        check.due("which", z.of(1, 5), 1);
        check.due("none is MET", z.now(3), 0);
        PeasDrum w = told("sap theirs at 20 way 1;sand 21;propped ours at 29 way 1");
        check.due("theirs is LOST of itself", w.nights(1), 1);
        check.due("none is MET", w.now(3), 0);
        PeasDrum v = told("propped ours at 20 way 1;propped ours at 21 way 1");
        check.due("ours meets not ours", v.nights(1), 0);
        PeasDrum u = told("propped theirs at 20 way 1;propped theirs at 21 way 1");
        check.due("theirs meets not theirs", u.nights(1), 0);
    }

    private static void metCountsOnce() {
        PeasDrum x = told("propped theirs at 20 way 1;propped ours at 21 way 1;propped ours at 19 way 3;"
                + "propped ours at 20 way 0");
        check.due("by three of ours, LOST once", x.nights(1), 1);
        check.due("MET once", x.now(3), 1);
        check.due("then no more", x.nights(1), 0);
        check.due("MET once", x.now(3), 1);
        check.due("ours", x.now(2), 3);
    }

    private static void asManyMetAsCanBe() {
        PeasDrum x = new PeasDrum();
        for (int i = 0; i < 9; i++) {
            x.gallery(1, 0, new int[] {20, 12, 21, 28, 19}[i % 5], 0);
        }
        x.gallery(1, 1, 20, 0);
        check.due("nine by one", x.nights(1), 9);
        check.due("nine by one", x.now(3), 9);
        check.due("theirs", x.now(1), 0);
        check.due("ours", x.now(2), 1);
    }

    private static void nightsAreCounted() {
        PeasDrum x = new PeasDrum();
        check.due("NIGHT at first", x.now(0), 0);
        x.nights(1);
        check.due("one more", x.now(0), 1);
        for (int i = 1; i <= 16; i++) {
            x.nights(60);
            check.due("sixty more", x.now(0), 1 + 60 * i);
        }
        x.nights(38);
        check.due("999 at most", x.now(0), 999);
        x.nights(1);
        check.due("999 at most", x.now(0), 999);
    }

    private static void farOfEachCell() {
        for (int stuff = 0; stuff < 4; stuff++) {
            for (int from = 0; from < 48; from++) {
                PeasDrum x = told(new String[] {"clay", "sand", "rock", "water"}[stuff] + " 0 to 47");
                for (int to = 0; to < 48; to++) {
                    check.due("FAR from " + from + " to " + to + " in " + stuff, x.far(from, to),
                            CARRIES[stuff] * apart(from, to));
                }
            }
        }
    }

    private static void farIntoEachStuff() {
        for (int stuff = 0; stuff < 4; stuff++) {
            PeasDrum x = new PeasDrum();
            x.ground(20, stuff);
            check.due("into " + stuff, x.far(19, 20), CARRIES[stuff]);
            check.due("out of " + stuff, x.far(20, 19), 1);
            check.due("to itself in " + stuff, x.far(20, 20), 0);
            check.due("two into " + stuff, x.far(18, 20), 1 + CARRIES[stuff]);
            check.due("through or around " + stuff, x.far(19, 21), Math.min(4, 1 + CARRIES[stuff]));
        }
    }

    /** CLAY that winds between rows of WATER: 4 is as much as 4 CELLS of CLAY. */
    private static void farthest() {
        PeasDrum x = told("water 8 to 14;water 25 to 31;water 40 to 46");
        check.due("around is as far as through", x.far(5, 21), 5);
        check.due("through WATER", x.far(0, 16), 5);
        check.due("around WATER", x.far(7, 23), 2);
        check.due("twice through WATER", x.far(3, 35), 4 + 1 + 4 + 1);
        check.due("into WATER at the end", x.far(39, 46), Math.min(1 + 4, 1 + 1 + 4));
    }

    private static void heardInEachStuff() {
        for (int kind = 0; kind < 6; kind++) {
            for (int stuff = 0; stuff < 4; stuff++) {
                String at = "KIND " + kind + " in " + stuff;
                PeasDrum x = new PeasDrum();
                x.ground(20, stuff);
                x.gallery(kind, 0, 20, 0);
                x.dish(20);
                x.dish(21);
                check.due(at + ", LOUD", x.does(0, 20, 1), LOUDS[kind][stuff]);
                check.due(at + ", at the DISH", x.hears(0, 0), LOUDS[kind][stuff]);
                check.due(at + ", BESIDE", x.hears(1, 0), LOUDS[kind][stuff] / 2);
                check.due(at + ", PEAS", x.peas(1), LOUDS[kind][stuff] / 2);
                x.ground(21, stuff);
                check.due(at + ", into the same", x.hears(1, 0), LOUDS[kind][stuff] / (1 + CARRIES[stuff]));
            }
        }
    }

    /** LOUD by (1 and FAR), cut: till nothing is left. */
    private static void heardFromFarther() {
        for (int kind = 0; kind < 6; kind++) {
            PeasDrum x = new PeasDrum();
            x.dish(47);
            for (int cell = 0; cell < 48; cell++) {
                x.image();
                x.gallery(kind, 0, cell, 0);
                int due = LOUDS[kind][0] / (1 + apart(cell, 47));
                check.due("KIND " + kind + " from " + cell, x.hears(0, 0), due);
                check.due("PEAS of KIND " + kind + " from " + cell, x.peas(0), due);
                x.undo();
            }
        }
    }
}
