/** Promises 21 to 26 at their edges. */
public final class DishEdgeTest {
    private static final Check check = new Check();
    private static final long ALL = (1L << 48) - 1;

    public static void main(String[] args) {
        nineDishes();
        moveToEachCell();
        peasOfNone();
        peasOfTen();
        hearsOnlyTheirsThatAreLeft();
        whereAllIsSilent();
        whereNowhere();
        whereByNine();
        whereIsByPeasNotByKinds();
        bestWithRoomForOne();
        bestOfSeveral();
        bestIsFewest();
        bestCountsEachPlace();
        bestOfAnyCell();
        check.end();
    }

    private static PeasDrum told(String text) {
        PeasDrum x = new PeasDrum();
        check.isTrue("'" + text + "' is right", Check.siege(x, text) > 0);
        return x;
    }

    private static void nineDishes() {
        PeasDrum x = new PeasDrum();
        int[] cells = {0, 47, 7, 40, 0, 31, 32, 20, 46};
        for (int d = 0; d < 9; d++) {
            check.due("45: count(1)", x.count(1), d);
            check.due("23: one that is to come", x.peas(d), Check.BEYOND);
            check.due("21: dish " + d, x.dish(cells[d]), d);
        }
        check.due("21: a 10th", x.dish(0), Check.FULL);
        check.due("45: count(1)", x.count(1), 9);
        for (int d = 0; d < 9; d++) {
            check.due("22: where " + d + " was", x.move(d, 9 - d), cells[d]);
        }
        for (int d = 0; d < 9; d++) {
            check.due("22: where " + d + " was then", x.move(d, 9 - d), 9 - d);
        }
    }

    private static void moveToEachCell() {
        PeasDrum x = told("dish 47;dish 20");
        int was = 47;
        for (int cell = 0; cell < 48; cell++) {
            check.due("22: move(0, " + cell + ")", x.move(0, cell), was);
            was = cell;
        }
        check.due("22: the other stays", x.move(1, 20), 20);
        check.due("22: no new one", x.count(1), 2);
    }

    private static void peasOfNone() {
        PeasDrum x = told("dish 0");
        check.due("23: no GALLERY", x.peas(0), 0);
        Check.siege(x, "gallery ours at 0 way 0");
        check.due("23: none of theirs", x.peas(0), 0);
        Check.siege(x, "gallery theirs at 0 way 0");
        check.due("23: one of theirs", x.peas(0), 12);
        x.blow(0, 1);
        check.due("23: a LOST one", x.peas(0), 0);
        Check.siege(x, "gallery theirs at 47 way 0");
        check.due("23: 12 by 13", x.peas(0), 0);
        x.move(0, 1);
        check.due("23: 12 by 12", x.peas(0), 1);
    }

    private static void peasOfTen() {
        PeasDrum x = told("rock 20;dish 20");
        for (int i = 1; i <= 10; i++) {
            x.gallery(4, 0, 20, 0);
            check.due("23: " + i + " FEINTS in ROCK", x.peas(0), 30 * i);
        }
        PeasDrum y = told("dish 0");
        for (int i = 1; i <= 10; i++) {
            y.gallery(0, 0, 47 - 8 * (i % 2), 0);
            check.due("23: each is cut", y.peas(0), (i + 1) / 2);
        }
    }

    private static void hearsOnlyTheirsThatAreLeft() {
        PeasDrum x = new PeasDrum();
        for (int i = 0; i < 9; i++) {
            x.gallery(0, i % 2, i, 0);
            x.dish(i);
        }
        x.gallery(0, 0, 47, 0);
        for (int d = 0; d < 9; d++) {
            for (int g = 0; g < 9; g++) {
                int apart = Math.abs(d / 8 - g / 8) + Math.abs(d % 8 - g % 8);
                check.due("24: hears(" + d + ", " + g + ")", x.hears(d, g), g % 2 == 1 ? 0 : 12 / (1 + apart));
            }
        }
        x.blow(4, 1);
        check.due("24: a LOST one", x.hears(4, 4), 0);
        check.due("24: the last of all", x.hears(8, 9), 12 / 12);
        x.move(8, 47);
        check.due("24: the last of all, near", x.hears(8, 9), 12);
    }

    private static void whereAllIsSilent() {
        PeasDrum x = told("water 0 to 47;dish 0");
        for (int kind = 0; kind < 6; kind++) {
            check.due("25: all CELLS", x.where(kind), ALL);
        }
        x.ground(0, 0);
        for (int kind = 0; kind < 6; kind++) {
            check.due("25: all but one", x.where(kind), ALL & ~1L);
        }
        x.ground(47, 0);
        check.due("25: CLAY, but too far", x.where(0), ALL & ~1L);
    }

    private static void whereNowhere() {
        PeasDrum x = told("dish 20;gallery theirs at 20 way 0;gallery theirs at 20 way 0");
        for (int kind = 0; kind < 6; kind++) {
            check.due("25: no one is so loud alone", x.where(kind), 0);
            check.due("26: no CELL", x.best(kind), Check.NONE);
        }
        check.due("25: that is no finding", x.status(-1), 6);
    }

    private static void whereByNine() {
        PeasDrum x = told("gallery theirs at 27 way 0");
        long[] left = new long[9];
        int[] cells = {27, 0, 7, 40, 47, 3, 24, 31, 43};
        for (int d = 0; d < 9; d++) {
            x.dish(cells[d]);
            left[d] = x.where(0);
            check.isTrue("25: where it is, is always told", (left[d] >>> 27 & 1) == 1);
            check.isTrue("25: more DISHES tell not less", d == 0 || (left[d] & ~left[d - 1]) == 0);
        }
        check.due("25: at the DISH", left[0], 1L << 27);
        x.move(0, 0);
        check.due("25: all nine count", x.where(0) & 1L << 27, 1L << 27);
        x.move(8, 27);
        check.due("25: the last one counts", x.where(0), 1L << 27);
        check.due("25: by another KIND it is nowhere", x.where(4), 0);
    }

    private static void whereIsByPeasNotByKinds() {
        PeasDrum x = told("dish 0;sap theirs at 0 way 0;sap theirs at 0 way 0");
        check.due("25: two SAPS are as one GALLERY", x.where(0), 1);
        check.due("25: or as a FEINT, 18 by 1 is too much", x.where(4), 0);
        PeasDrum y = told("dish 0;sap theirs at 0 way 0;gallery ours at 0 way 0");
        check.due("25: ours is not heard", y.where(2), 1);
        PeasDrum z = told("dish 0;sap theirs at 0 way 0");
        z.blow(0, 1);
        check.due("25: LOST ones are not heard", z.where(2) & 1, 0);
        PeasDrum w = told("dish 0;gallery theirs at 1 way 0;sand 8");
        check.due("25: heard from there: LOUD in its STUFF", w.where(0), Check.set(1));
        w.ground(0, 1);
        check.due("25: heard from there: FAR from it", w.where(0), Check.set(1));
        check.due("25: PEAS", w.peas(0), 12 / 3);
    }

    private static void bestWithRoomForOne() {
        PeasDrum x = told("water 0 to 47");
        check.due("26: no DISH", x.best(0), Check.NONE);
        for (int d = 0; d < 8; d++) {
            x.dish(47);
            check.due("26: room for one more than " + d, x.best(0), 0);
        }
        x.dish(47);
        check.due("26: FULL", x.best(0), Check.FULL);
        check.due("26: no DISH came by it", x.count(1), 9);
        check.due("26: findings", 10 * x.status(3) + x.status(1), 11);
    }

    private static void bestOfSeveral() {
        PeasDrum x = told("water 0 to 47;dish 0;gallery theirs at 5 way 0");
        check.due("26: none tells more than another", x.best(0), 0);
        x.ground(47, 0);
        check.due("25: all CELLS", x.where(0), ALL);
        // Heard at 31, two of WATER away: 12 by 9; farther off, by 13, not.
        check.due("26: the least CELL that hears it", x.best(0), 31);
        check.due("26: LOUD 6: only where 1 and FAR is 6 or less", x.best(2), 39);
        check.due("26: LOUD 18: up to 16 away", x.best(4), 15);
    }

    /** Fewest CELLS are left by which where() is asked, with the PEAS that the new DISH would have. */
    private static void bestIsFewest() {
        PeasDrum x = told("dish 0;gallery theirs at 1 way 0");
        check.due("25: one of two", x.where(0), Check.set(1, 8));
        check.due("26: 0 tells nothing, 1 does", x.best(0), 1);
        for (int cell = 0; cell < 48; cell++) {
            x.image();
            x.dish(cell);
            boolean onTheMiddle = cell / 8 == cell % 8;
            int apart = Math.abs(12 / (1 + away(cell, 1)) - 12 / (1 + away(cell, 8)));
            int due = onTheMiddle || apart == 0 ? 2 : 1;
            check.due("25: with a DISH at " + cell, Long.bitCount(x.where(0)), due);
            x.undo();
        }
    }

    /** Two CELLS that are heard alike at one of them: 6 in SAND, and 18 by 3 in ROCK beside it. */
    private static void bestCountsEachPlace() {
        PeasDrum x = told("sand 0;rock 1;propped theirs at 1 way 1;dish 0");
        check.due("25: the first CELL of all, and the next", x.where(1), Check.set(0, 1));
        check.due("26: not at 0, where they are alike", x.best(1), 1);
        PeasDrum y = told("sand 47;rock 46;propped theirs at 46 way 1;dish 47");
        check.due("25: the last CELL of all, and the one ahead", y.where(1), Check.set(46, 47));
        check.due("26: at 0, by 18 by 12 and 6 by 13", y.best(1), 0);
    }

    private static int away(int a, int b) {
        return Math.abs(a / 8 - b / 8) + Math.abs(a % 8 - b % 8);
    }

    /** Neither the WALL nor what stands at a CELL keeps a DISH from it. */
    private static void bestOfAnyCell() {
        PeasDrum x = told("dish 0");
        check.due("25: with no WALL", x.where(2), 280362461749440L);
        check.due("26: with no WALL", x.best(2), 28);
        Check.siege(x, "wall 0 to 47");
        check.due("25: below the WALL", x.where(2), 280362461749440L);
        check.due("26: below the WALL", x.best(2), 28);
        x.gallery(0, 1, 28, 0);
        check.due("26: where one of ours is", x.best(2), 28);
        x.gallery(0, 0, 28, 0);
        x.blow(28, 1);
        check.due("26: where a LOST one is", x.best(2), 28);
    }
}
