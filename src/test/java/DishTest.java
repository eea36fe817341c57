/** Promises 21 to 26: dish, move, peas, hears, where, best. */
public final class DishTest {
    private static final Check check = new Check();

    public static void main(String[] args) {
        dish();
        hears();
        peas();
        where();
        best();
        bestOfSilence();
        bestBounds();
        check.end();
    }

    private static void dish() {
        PeasDrum x = new PeasDrum();
        check.due("21: dish(48)", x.dish(48), Check.BEYOND);
        check.due("21: dish(-1)", x.dish(-1), Check.BEYOND);
        check.due("22: no dish yet", x.move(0, 0), Check.BEYOND);
        check.due("23: no dish yet", x.peas(0), Check.BEYOND);
        for (int d = 0; d < 9; d++) {
            check.due("21: dish " + d, x.dish(5 * d), d);
        }
        check.due("21: a 10th", x.dish(0), Check.FULL);
        check.due("21: a 10th, BEYOND first", x.dish(48), Check.BEYOND);
        check.due("21: count(1)", x.count(1), 9);
        check.due("22: move(8, 47)", x.move(8, 47), 40);
        check.due("22: move(8, 47)", x.move(8, 47), 47);
        check.due("22: move(0, 47)", x.move(0, 47), 0);
        check.due("22: move(9, 0)", x.move(9, 0), Check.BEYOND);
        check.due("22: move(-1, 0)", x.move(-1, 0), Check.BEYOND);
        check.due("22: move(0, 48)", x.move(0, 48), Check.BEYOND);
        check.due("22: move(0, -1)", x.move(0, -1), Check.BEYOND);
        check.due("22: unchanged", x.move(0, 1), 47);
        check.due("23: peas(9)", x.peas(9), Check.BEYOND);
        check.due("23: peas(-1)", x.peas(-1), Check.BEYOND);
    }

    private static void hears() {
        PeasDrum x = new PeasDrum();
        x.dish(0);
        x.gallery(0, 0, 0, 0);
        x.gallery(4, 0, 2, 0);
        x.gallery(0, 1, 1, 0);
        x.gallery(2, 0, 47, 2);
        check.due("24: at the DISH", x.hears(0, 0), 12);
        check.due("24: two away", x.hears(0, 1), 6);
        check.due("24: ours", x.hears(0, 2), 0);
        check.due("24: too far", x.hears(0, 3), 0);
        x.ground(0, 3);
        check.due("24: LOUD in WATER", x.hears(0, 0), 0);
        check.due("24: into WATER", x.hears(0, 1), 18 / 6);
        x.ground(0, 2);
        check.due("24: LOUD in ROCK", x.hears(0, 0), 20);
        x.ground(2, 1);
        check.due("24: LOUD in SAND, which it only leaves", x.hears(0, 1), 4);
        x.move(0, 2);
        check.due("24: to a DISH in SAND", x.hears(0, 0), 5);
        x.blow(2, 1);
        check.due("24: LOST", x.hears(0, 1), 0);
        check.due("24: hears(1, 0)", x.hears(1, 0), Check.BEYOND);
        check.due("24: hears(-1, 0)", x.hears(-1, 0), Check.BEYOND);
        check.due("24: hears(0, 4)", x.hears(0, 4), Check.BEYOND);
        check.due("24: hears(0, -1)", x.hears(0, -1), Check.BEYOND);
    }

    private static void peas() {
        PeasDrum x = new PeasDrum();
        x.dish(0);
        check.due("23: none", x.peas(0), 0);
        x.gallery(0, 0, 4, 0);
        check.due("23: 12 by 5", x.peas(0), 2);
        x.gallery(0, 0, 32, 3);
        check.due("23: each is cut, not the sum", x.peas(0), 4);
        x.gallery(5, 1, 0, 3);
        check.due("23: ours tells nothing", x.peas(0), 4);
        x.turn(0, 3);
        x.nights(1);
        check.due("23: as it comes", x.peas(0), 5);
        x.blow(3, 1);
        check.due("23: without the LOST", x.peas(0), 2);
        PeasDrum y = new PeasDrum();
        y.dish(20);
        y.ground(20, 2);
        for (int i = 0; i < 10; i++) {
            y.gallery(4, 0, 20, 0);
        }
        check.due("23: as loud as can be", y.peas(0), 300);
    }

    private static void where() {
        PeasDrum x = new PeasDrum();
        check.due("25: no DISH", x.where(0), Check.NONE);
        check.due("25: where(6)", x.where(6), Check.BEYOND);
        check.due("25: where(-1)", x.where(-1), Check.BEYOND);
        x.dish(0);
        x.gallery(0, 0, 1, 0);
        check.due("25: one away", x.where(0), Check.set(1, 8));
        x.dish(2);
        check.due("25: by two DISHES", x.where(0), Check.set(1));
        check.due("25: as a SAP", x.where(2), 0);
        x.ground(17, 2);
        check.due("25: ground far off", x.where(0), Check.set(1));
        x.move(1, 0);
        x.ground(8, 1);
        check.due("25: SAND beside", x.where(0), Check.set(1));
        check.due("25: as a PROPPED", x.where(1), Check.set());
        x.ground(8, 2);
        check.due("25: ROCK beside", x.where(0), Check.set(1));
        x.ground(1, 2);
        check.due("25: both ROCK", x.where(0), Check.set(1, 8));
        x.ground(0, 1);
        check.due("25: into SAND", x.where(0), Check.set(1, 8));
        check.due("25: a FEINT in ROCK, 30 by 5", x.where(4), Check.set(17));
        check.due("25: status(3)", x.status(3), 1);
        two();
    }

    /** What two galleries make together is laid to one alone. */
    private static void two() {
        PeasDrum x = new PeasDrum();
        x.dish(0);
        x.gallery(0, 0, 47, 0);
        x.gallery(2, 0, 0, 0);
        check.due("25: PEAS", x.peas(0), 6);
        check.due("25: of a GALLERY", x.where(0), Check.set(1, 8));
        check.due("25: of a SAP", x.where(2), Check.set(0));
        check.due("25: of a FEINT", x.where(4), Check.set(2, 9, 16));
        check.due("25: of a MINE", x.where(3), 0);
        for (int cell = 0; cell < 48; cell++) {
            x.ground(cell, 3);
        }
        check.due("25: all WATER is silent", x.where(3), (1L << 48) - 1);
    }

    private static void best() {
        PeasDrum x = new PeasDrum();
        x.dish(0);
        x.gallery(0, 0, 9, 0);
        check.due("26: where", x.where(0), Check.set(2, 9, 16));
        // At 0 all three are heard alike; at 1, 2 and 9 one away (6), 16 three away (3).
        check.due("26: best(0)", x.best(0), 2);
        x.dish(2);
        check.due("26: where", x.where(0), Check.set(9));
        check.due("26: none tells more, of several the least", x.best(0), 0);
        check.due("26: of another KIND", x.best(5), Check.NONE);
        check.due("26: nothing changes", x.count(1), 2);
        x.gallery(2, 0, 47, 0);
        check.due("26: where, with one too far", x.where(0), Check.set(9));
        // A DISH that hears that one too leaves no place at all, which is fewest.
        check.due("26: fewest may be none", x.best(0), 7);
    }

    /** All is silent, so that every cell is a place; a DISH near the one CELL of CLAY takes one. */
    private static void bestOfSilence() {
        PeasDrum x = new PeasDrum();
        for (int cell = 0; cell < 48; cell++) {
            x.ground(cell, 3);
        }
        x.dish(0);
        check.due("26: all WATER, of several the least", x.best(0), 0);
        x.ground(47, 0);
        check.due("26: where", x.where(0), (1L << 48) - 1);
        check.due("26: 47 places instead of 48", x.best(0), 31);
    }

    private static void bestBounds() {
        PeasDrum x = new PeasDrum();
        check.due("26: no DISH", x.best(0), Check.NONE);
        check.due("26: best(6)", x.best(6), Check.BEYOND);
        check.due("26: best(-1)", x.best(-1), Check.BEYOND);
        for (int d = 0; d < 8; d++) {
            x.dish(0);
        }
        check.due("26: room for one", x.best(2), 28);
        x.dish(0);
        check.due("26: FULL", x.best(2), Check.FULL);
        x.gallery(0, 0, 0, 0);
        check.due("26: NONE ahead of FULL", x.best(2), Check.NONE);
        check.due("26: status(1)", x.status(1), 1);
    }
}
