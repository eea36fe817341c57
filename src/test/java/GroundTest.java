/** Promises 1 to 6: a new object, ground, wall, cellOf, walls, far. */
public final class GroundTest {
    private static final Check check = new Check();

    public static void main(String[] args) {
        newObject();
        ground();
        wall();
        cellOf();
        far();
        check.end();
    }

    private static void newObject() {
        PeasDrum x = new PeasDrum();
        for (int cell = 0; cell < 48; cell++) {
            check.due("1: new, cellOf(" + cell + ", 0)", x.cellOf(cell, 0), 0);
            check.due("1: new, cellOf(" + cell + ", 1)", x.cellOf(cell, 1), 0);
            check.due("1: new, cellOf(" + cell + ", 2)", x.cellOf(cell, 2), 0);
        }
        int[] counts = {0, 0, 0, 0, 0, 10, 16};
        for (int what = 0; what < counts.length; what++) {
            check.due("1: new, count(" + what + ")", x.count(what), counts[what]);
        }
        for (int what = 0; what < 4; what++) {
            check.due("1: new, now(" + what + ")", x.now(what), 0);
        }
        for (int s = 0; s < 4; s++) {
            check.due("1: new, book(" + s + ")", x.book(s), Check.MISSING);
        }
        check.due("1: new, walls()", x.walls(), 0);
        check.due("1: new, tear()", x.tear(), 0);
        check.due("1: new, status(-1)", x.status(-1), 4);
        PeasDrum y = new PeasDrum();
        y.ground(3, 2);
        check.due("1: objects stand alone", x.cellOf(3, 0), 0);
        check.due("1: status stands alone", y.status(-1), 0);
    }

    private static void ground() {
        PeasDrum x = new PeasDrum();
        check.due("2: ground(0, 3)", x.ground(0, 3), 0);
        check.due("2: ground(0, 1)", x.ground(0, 1), 3);
        check.due("2: ground(0, 1)", x.ground(0, 1), 1);
        check.due("2: ground(47, 2)", x.ground(47, 2), 0);
        check.due("2: ground(47, 0)", x.ground(47, 0), 2);
        check.due("2: ground(-1, 0)", x.ground(-1, 0), Check.BEYOND);
        check.due("2: ground(48, 0)", x.ground(48, 0), Check.BEYOND);
        check.due("2: ground(5, -1)", x.ground(5, -1), Check.BEYOND);
        check.due("2: ground(5, 4)", x.ground(5, 4), Check.BEYOND);
        check.due("2: ground(min, max)", x.ground(Integer.MIN_VALUE, Integer.MAX_VALUE), Check.BEYOND);
        check.due("2: unchanged", x.cellOf(5, 0), 0);
        check.due("2: status(0)", x.status(0), 5);
    }

    private static void wall() {
        PeasDrum x = new PeasDrum();
        check.due("3: wall(47, false)", x.wall(47, false), 0);
        check.due("3: wall(47, true)", x.wall(47, true), 1);
        check.due("3: wall(47, true)", x.wall(47, true), 0);
        check.due("3: wall(0, true)", x.wall(0, true), 1);
        check.due("3: wall(35, true)", x.wall(35, true), 1);
        check.due("5: walls()", x.walls(), Check.set(0, 35, 47));
        check.due("3: wall(35, false)", x.wall(35, false), 1);
        check.due("3: wall(35, false)", x.wall(35, false), 0);
        check.due("5: walls()", x.walls(), Check.set(0, 47));
        check.due("3: wall(48, true)", x.wall(48, true), Check.BEYOND);
        check.due("3: wall(-1, true)", x.wall(-1, true), Check.BEYOND);
        check.due("3: wall(64, true)", x.wall(64, true), Check.BEYOND);
        check.due("5: walls()", x.walls(), Check.set(0, 47));
    }

    private static void cellOf() {
        PeasDrum x = new PeasDrum();
        x.ground(20, 2);
        x.wall(20, true);
        x.gallery(0, 0, 20, 0);
        x.gallery(0, 0, 20, 2);
        x.gallery(3, 1, 36, 1);
        check.due("4: cellOf(20, 0)", x.cellOf(20, 0), 2);
        check.due("4: cellOf(20, 1)", x.cellOf(20, 1), 1);
        check.due("4: cellOf(20, 2)", x.cellOf(20, 2), 2);
        check.due("4: cellOf(36, 2)", x.cellOf(36, 2), 1);
        check.due("4: cellOf(19, 1)", x.cellOf(19, 1), 0);
        x.ground(28, 3);
        x.nights(1);
        check.due("4: cellOf(20, 2), one LOST, one gone", x.cellOf(20, 2), 0);
        check.due("4: cellOf(12, 2), where it went", x.cellOf(12, 2), 1);
        check.due("4: cellOf(48, 0)", x.cellOf(48, 0), Check.BEYOND);
        check.due("4: cellOf(-1, 0)", x.cellOf(-1, 0), Check.BEYOND);
        check.due("4: cellOf(0, 3)", x.cellOf(0, 3), Check.BEYOND);
        check.due("4: cellOf(0, -1)", x.cellOf(0, -1), Check.BEYOND);
        check.due("4: status(0)", x.status(0), 4);
    }

    private static void far() {
        PeasDrum x = new PeasDrum();
        check.due("6: far(0, 0)", x.far(0, 0), 0);
        check.due("6: far(0, 47)", x.far(0, 47), 12);
        check.due("6: far(47, 0)", x.far(47, 0), 12);
        check.due("6: far(7, 8), no way over the edge", x.far(7, 8), 8);
        x.ground(1, 1);
        check.due("6: far(0, 1), into SAND", x.far(0, 1), 2);
        check.due("6: far(1, 0), out of SAND", x.far(1, 0), 1);
        check.due("6: far(0, 2), over or around", x.far(0, 2), 3);
        x.ground(1, 2);
        check.due("6: far(0, 1), into ROCK", x.far(0, 1), 1);
        x.ground(1, 3);
        check.due("6: far(0, 1), into WATER", x.far(0, 1), 4);
        check.due("6: far(1, 1), itself", x.far(1, 1), 0);
        check.due("6: far(0, 2), around WATER", x.far(0, 2), 4);
        x.ground(9, 3);
        check.due("6: far(0, 2), WATER or far around", x.far(0, 2), 5);
        for (int row = 0; row < 6; row++) {
            x.ground(8 * row + 1, 3);
            x.ground(8 * row + 2, 1);
        }
        check.due("6: far(16, 19), over WATER and SAND", x.far(16, 19), 7);
        check.due("6: far(19, 16), back", x.far(19, 16), 7);
        check.due("6: far(17, 19), out of WATER", x.far(17, 19), 3);
        check.due("6: far(19, 17), into WATER", x.far(19, 17), 6);
        check.due("6: far(-1, 0)", x.far(-1, 0), Check.BEYOND);
        check.due("6: far(0, 48)", x.far(0, 48), Check.BEYOND);
        check.due("6: far(48, 0)", x.far(48, 0), Check.BEYOND);
        winding();
    }

    /** CLAY that winds between two rows of WATER. */
    private static void winding() {
        PeasDrum x = new PeasDrum();
        for (int column = 0; column < 7; column++) {
            x.ground(8 + column, 3);
            x.ground(24 + 7 - column, 3);
        }
        check.due("6: far(0, 16), through WATER", x.far(0, 16), 5);
        check.due("6: far(6, 22), around WATER", x.far(6, 22), 4);
        check.due("6: far(0, 40), through WATER, by the bend", x.far(0, 40), 8);
        check.due("6: far(7, 40)", x.far(7, 40), 12);
    }
}
