import java.util.function.Consumer;

/**
 * Each act with arguments just inside and just outside of what may be, and its findings in the order
 * in which the document names them; a finding changes nothing but what status() tells.
 */
public final class FindingsTest {
    private static final Check check = new Check();
    private static final Twins twins = new Twins(check);
    private static final Consumer<PeasDrum> EMPTY = Towns::empty;
    private static final Consumer<PeasDrum> TOWN = Towns::someTown;
    private static final Consumer<PeasDrum> FULL = Towns::fullTown;

    public static void main(String[] args) {
        theTownIsAsThought();
        groundActs();
        galleryActs();
        galleryOrder();
        onActs();
        onOrder();
        lateActs();
        dishActs();
        powderActs();
        breadActs();
        textActs();
        sheetActs();
        sheetOrder();
        copyOrder();
        imageActs();
        askingChangesNothing();
        askingOnChangesNothing();
        check.end();
    }

    private static void theTownIsAsThought() {
        PeasDrum x = new PeasDrum();
        Towns.someTown(x);
        int[] lost = {0, 0, 0, 1, 0, 1, 1};
        int[] side = {1, 0, 1, 0, 0, 0, 1};
        for (int g = 0; g < lost.length; g++) {
            check.due("town, LOST of " + g, x.of(g, 5), lost[g]);
            check.due("town, SIDE of " + g, x.of(g, 1), side[g]);
        }
        check.due("town, DONE", x.of(Towns.THEIRS, 4), 1);
        check.due("town, MET", x.now(3), 1);
        check.due("town, STUFF", x.cellOf(Towns.WATER, 0), 3);
        check.due("town, no findings", x.status(-1), 0);
        PeasDrum y = new PeasDrum();
        Towns.fullTown(y);
        int[] counts = {10, 9, 48, 120, 999999, 999, 99};
        for (int what = 0; what < counts.length; what++) {
            check.due("full town, count(" + what + ")", y.count(what), counts[what]);
        }
        check.due("full town, no findings", y.status(-1), 0);
    }

    private static void groundActs() {
        twins.range("2: ground(v, 1)", TOWN, 0, 47, (x, v) -> x.ground(v, 1));
        twins.range("2: ground(20, v)", TOWN, 0, 3, (x, v) -> x.ground(20, v));
        twins.range("3: wall(v, true)", TOWN, 0, 47, (x, v) -> x.wall(v, true));
        twins.range("3: wall(v, false)", TOWN, 0, 47, (x, v) -> x.wall(v, false));
        for (int what = 0; what < 3; what++) {
            int asked = what;
            twins.range("4: cellOf(v, " + what + ")", TOWN, 0, 47, (x, v) -> x.cellOf(v, asked));
        }
        twins.range("4: cellOf(20, v)", TOWN, 0, 2, (x, v) -> x.cellOf(20, v));
        twins.range("6: far(v, 20)", TOWN, 0, 47, (x, v) -> x.far(v, 20));
        twins.range("6: far(20, v)", TOWN, 0, 47, (x, v) -> x.far(20, v));
        twins.refused("6: far, both", TOWN, x -> x.far(-1, 48), Check.BEYOND);
        twins.refused("6: far, the same", TOWN, x -> x.far(48, 48), Check.BEYOND);
    }

    private static void galleryActs() {
        twins.range("7: gallery(v, 0, 5, 1)", TOWN, 0, 5, (x, v) -> x.gallery(v, 0, 5, 1));
        twins.range("7: gallery(0, v, 5, 1)", TOWN, 0, 1, (x, v) -> x.gallery(0, v, 5, 1));
        twins.range("7: gallery(0, 0, v, 1)", TOWN, 0, 47, (x, v) -> x.gallery(0, 0, v, 1));
        twins.range("7: gallery(0, 0, 5, v)", TOWN, 0, 3, (x, v) -> x.gallery(0, 0, 5, v));
        twins.range("8: of(v, 2)", TOWN, 0, 6, (x, v) -> x.of(v, 2));
        twins.range("8: of(v, 2) of ten", FULL, 0, 9, (x, v) -> x.of(v, 2));
        twins.range("8: of(5, v)", TOWN, 0, 5, (x, v) -> x.of(5, v));
        twins.range("9: turn(v, 2)", TOWN, 0, 2, (x, v) -> x.turn(v <= 2 ? v : v + 4, 2));
        twins.range("9: turn(v, 2) of ten", FULL, 0, 9, (x, v) -> x.turn(v, 2));
        twins.range("9: turn(1, v)", TOWN, 0, 3, (x, v) -> x.turn(1, v));
        twins.range("10: become(v, 2)", TOWN, 0, 6, (x, v) -> x.become(v, 2));
        twins.range("10: become(v, 2) of ten", FULL, 0, 9, (x, v) -> x.become(v, 2));
        twins.range("10: become(1, v)", TOWN, 0, 5, (x, v) -> x.become(1, v));
        twins.range("11: as(v, 0)", TOWN, 0, 6, (x, v) -> x.as(v, 0));
        twins.range("11: as(v, 0) of ten", FULL, 0, 9, (x, v) -> x.as(v, 0));
        twins.range("12: does(v, 20, 0)", TOWN, 0, 6, (x, v) -> x.does(v, 20, 0));
        twins.range("12: does(v, 20, 0) of ten", FULL, 0, 9, (x, v) -> x.does(v, 20, 0));
        for (int what = 0; what < 3; what++) {
            int asked = what;
            twins.range("12: does(0, v, " + what + ")", TOWN, 0, 47, (x, v) -> x.does(0, v, asked));
        }
        twins.range("12: does(0, 20, v)", TOWN, 0, 2, (x, v) -> x.does(0, 20, v));
        twins.range("13: nights(v)", TOWN, 1, 60, (x, v) -> x.nights(v));
        twins.range("14: now(v)", TOWN, 0, 3, (x, v) -> x.now(v));
        noGalleries();
    }

    private static void noGalleries() {
        for (int v = -1; v < 2; v++) {
            int g = v;
            twins.refused("8: of, none", EMPTY, x -> x.of(g, 0), Check.BEYOND);
            twins.refused("9: turn, none", EMPTY, x -> x.turn(g, 0), Check.BEYOND);
            twins.refused("10: become, none", EMPTY, x -> x.become(g, 0), Check.BEYOND);
            twins.refused("11: as, none", EMPTY, x -> x.as(g, 0), Check.BEYOND);
            twins.refused("12: does, none", EMPTY, x -> x.does(g, 0, 0), Check.BEYOND);
            twins.refused("15: on, none", EMPTY, x -> x.on(g, 0), Check.BEYOND);
            twins.refused("16: lost, none", EMPTY, x -> x.lost(g), Check.BEYOND);
            twins.refused("18: comes, none", EMPTY, x -> x.comes(g, 0), Check.BEYOND);
            twins.refused("19: meets, none", EMPTY, x -> x.meets(g, g), Check.BEYOND);
            twins.refused("20: whose, none", EMPTY, x -> x.whose(g), Check.BEYOND);
        }
    }

    private static void galleryOrder() {
        twins.refused("7: FULL", FULL, x -> x.gallery(5, 1, 47, 3), Check.FULL);
        twins.refused("7: kind ahead of FULL", FULL, x -> x.gallery(6, 1, 47, 3), Check.BEYOND);
        twins.refused("7: side ahead of FULL", FULL, x -> x.gallery(5, 2, 47, 3), Check.BEYOND);
        twins.refused("7: cell ahead of FULL", FULL, x -> x.gallery(5, 1, 48, 3), Check.BEYOND);
        twins.refused("7: way ahead of FULL", FULL, x -> x.gallery(5, 1, 47, 4), Check.BEYOND);
        for (int lost : new int[] {Towns.LOST_THEIRS, Towns.MET_THEIRS, Towns.LOST_OURS}) {
            twins.refused("9: STATE", TOWN, x -> x.turn(lost, 2), Check.STATE);
            twins.refused("9: STATE, the same WAY", TOWN, x -> x.turn(lost, 1), Check.STATE);
            twins.refused("9: BEYOND ahead of STATE", TOWN, x -> x.turn(lost, 4), Check.BEYOND);
            twins.refused("9: BEYOND ahead of STATE", TOWN, x -> x.turn(lost, -1), Check.BEYOND);
        }
        twins.refused("11: KIND", TOWN, x -> x.as(Towns.THEIRS, 2), Check.KIND);
        twins.refused("11: BEYOND, not KIND", TOWN, x -> x.as(Towns.THEIRS, 6), Check.BEYOND);
        twins.refused("11: BEYOND, not KIND", TOWN, x -> x.as(Towns.THEIRS, -1), Check.BEYOND);
        twins.refused("12: NONE", TOWN, x -> x.does(0, Towns.WATER, 0), Check.NONE);
        twins.refused("12: gallery ahead of NONE", TOWN, x -> x.does(7, Towns.WATER, 0), Check.BEYOND);
        twins.refused("12: what ahead of NONE", TOWN, x -> x.does(0, Towns.WATER, 3), Check.BEYOND);
        twins.refused("12: what ahead of NONE", TOWN, x -> x.does(0, Towns.WATER, -1), Check.BEYOND);
    }

    private static void onActs() {
        twins.range("15: on(v, 5)", TOWN, 0, 6, (x, v) -> x.on(v, 5));
        twins.range("15: on(v, 5) of ten", FULL, 0, 9, (x, v) -> x.on(v, 5));
        twins.range("15: on(1, v)", TOWN, 0, 99, (x, v) -> x.on(1, v));
        twins.beyond("16: lost(v)", TOWN, (x, v) -> x.lost(v), -1, 7, 256, Integer.MIN_VALUE, Integer.MAX_VALUE);
        twins.beyond("18: comes(v, 40)", TOWN, (x, v) -> x.comes(v, 40), -1, 7, 256);
        twins.range("18: comes(0, v)", TOWN, 0, 47, (x, v) -> x.comes(0, v));
        twins.beyond("19: meets(v, 1)", TOWN, (x, v) -> x.meets(v, 1), -1, 7, 256, Integer.MAX_VALUE);
        twins.beyond("19: meets(0, v)", TOWN, (x, v) -> x.meets(0, v), -1, 7, 257, Integer.MIN_VALUE);
        twins.beyond("20: whose(v)", TOWN, (x, v) -> x.whose(v), -1, 7, 257, Integer.MAX_VALUE);
    }

    private static void onOrder() {
        int ours = Towns.OURS;
        int theirs = Towns.THEIRS;
        int[] lostOnes = {Towns.LOST_THEIRS, Towns.MET_THEIRS, Towns.LOST_OURS};
        for (int lost : lostOnes) {
            twins.refused("16: STATE, LOST", TOWN, x -> x.lost(lost), Check.STATE);
            twins.refused("18: STATE, LOST", TOWN, x -> x.comes(lost, 8), Check.STATE);
            twins.refused("19: STATE, LOST", TOWN, x -> x.meets(lost, theirs), Check.STATE);
            twins.refused("19: STATE, LOST", TOWN, x -> x.meets(ours, lost), Check.STATE);
            twins.refused("19: BEYOND ahead of STATE", TOWN, x -> x.meets(lost, 7), Check.BEYOND);
            twins.refused("19: BEYOND ahead of STATE", TOWN, x -> x.meets(-1, lost), Check.BEYOND);
            twins.refused("20: STATE, LOST", TOWN, x -> x.whose(lost), Check.STATE);
        }
        twins.refused("16: NONE", TOWN, x -> x.lost(ours), Check.NONE);
        twins.refused("18: STATE, theirs", TOWN, x -> x.comes(theirs, 4), Check.STATE);
        twins.refused("18: STATE ahead of NONE", TOWN, x -> x.comes(theirs, Towns.WATER), Check.STATE);
        twins.refused("18: BEYOND ahead of STATE", TOWN, x -> x.comes(theirs, 48), Check.BEYOND);
        twins.refused("18: BEYOND ahead of STATE", TOWN, x -> x.comes(theirs, -1), Check.BEYOND);
        twins.refused("18: NONE, WATER", TOWN, x -> x.comes(ours, Towns.WATER), Check.NONE);
        twins.refused("18: NONE, not FIRM", TOWN, x -> x.comes(ours, 12), Check.NONE);
        twins.refused("19: STATE, both ours", TOWN, x -> x.meets(ours, 2), Check.STATE);
        twins.refused("19: STATE, both theirs", TOWN, x -> x.meets(theirs, 4), Check.STATE);
        twins.refused("19: STATE, turned about", TOWN, x -> x.meets(theirs, ours), Check.STATE);
        twins.refused("19: STATE, the same", TOWN, x -> x.meets(ours, ours), Check.STATE);
        twins.refused("20: STATE, ours", TOWN, x -> x.whose(ours), Check.STATE);
        Consumer<PeasDrum> dry = x -> Check.siege(x, "water 1 8;sap ours at 0 way 0;sap theirs at 47 way 2");
        twins.refused("17: NONE", dry, x -> x.first(), Check.NONE);
        twins.refused("18: NONE", dry, x -> x.comes(0, 47), Check.NONE);
        twins.refused("19: NONE", dry, x -> x.meets(0, 1), Check.NONE);
        twins.refused("20: NONE", dry, x -> x.whose(1), Check.NONE);
        twins.refused("17: NONE of a new one", EMPTY, x -> x.first(), Check.NONE);
    }

    private static Consumer<PeasDrum> at(int night) {
        return x -> Towns.townAt(x, night);
    }

    /** What may not be asked, or done, when the last nights are near. */
    private static void lateActs() {
        int ours = Towns.OURS;
        int theirs = Towns.THEIRS;
        twins.taken("13: nights(60) at 939", at(939), x -> x.nights(60));
        twins.refused("13: nights(60) at 940", at(940), x -> x.nights(60), Check.STATE);
        twins.taken("13: nights(59) at 940", at(940), x -> x.nights(59));
        twins.taken("13: nights(1) at 998", at(998), x -> x.nights(1));
        twins.refused("13: nights(2) at 998", at(998), x -> x.nights(2), Check.STATE);
        twins.refused("13: nights(1) at 999", at(999), x -> x.nights(1), Check.STATE);
        twins.refused("13: BEYOND ahead of STATE", at(999), x -> x.nights(61), Check.BEYOND);
        twins.refused("13: BEYOND ahead of STATE", at(999), x -> x.nights(0), Check.BEYOND);
        twins.taken("15: on(1, 99) at 900", at(900), x -> x.on(theirs, 99));
        twins.refused("15: on(1, 99) at 901", at(901), x -> x.on(theirs, 99), Check.STATE);
        twins.taken("15: on(1, 98) at 901", at(901), x -> x.on(theirs, 98));
        twins.taken("15: on(1, 0) at 999", at(999), x -> x.on(theirs, 0));
        twins.refused("15: on(1, 1) at 999", at(999), x -> x.on(theirs, 1), Check.STATE);
        twins.refused("15: BEYOND ahead of STATE", at(999), x -> x.on(theirs, 100), Check.BEYOND);
        twins.refused("15: BEYOND ahead of STATE", at(999), x -> x.on(theirs, -1), Check.BEYOND);
        twins.refused("15: BEYOND ahead of STATE", at(999), x -> x.on(7, 1), Check.BEYOND);
        twins.refused("16: NONE at 900", at(900), x -> x.lost(ours), Check.NONE);
        twins.refused("16: STATE ahead of NONE at 901", at(901), x -> x.lost(ours), Check.STATE);
        twins.refused("16: BEYOND ahead of STATE", at(901), x -> x.lost(7), Check.BEYOND);
        Consumer<PeasDrum> bare900 = x -> Check.waitUntil(x, 900);
        Consumer<PeasDrum> bare901 = x -> Check.waitUntil(x, 901);
        twins.refused("17: NONE at 900", bare900, x -> x.first(), Check.NONE);
        twins.refused("17: STATE ahead of NONE at 901", bare901, x -> x.first(), Check.STATE);
        twins.taken("18: comes at 999", at(999), x -> x.comes(ours, 40));
        twins.refused("20: STATE, LOST, at 939", at(939), x -> x.whose(Towns.LOST_THEIRS), Check.STATE);
        twins.refused("19: STATE at 940", at(940), x -> x.meets(ours, theirs), Check.STATE);
        twins.refused("19: BEYOND ahead of STATE", at(940), x -> x.meets(ours, 7), Check.BEYOND);
        twins.refused("20: STATE at 940", at(940), x -> x.whose(theirs), Check.STATE);
        twins.refused("20: BEYOND ahead of STATE", at(940), x -> x.whose(7), Check.BEYOND);
        twins.refused("41: NONE at 939", at(939), x -> x.read(0), Check.NONE);
        twins.refused("41: STATE ahead of NONE at 940", at(940), x -> x.read(0), Check.STATE);
        twins.refused("41: MISSING ahead of STATE", at(940), x -> x.read(3), Check.MISSING);
        twins.refused("41: BEYOND ahead of STATE", at(940), x -> x.read(4), Check.BEYOND);
    }

    private static void dishActs() {
        twins.range("21: dish(v)", TOWN, 0, 47, (x, v) -> x.dish(v));
        twins.refused("21: FULL", FULL, x -> x.dish(5), Check.FULL);
        twins.refused("21: BEYOND ahead of FULL", FULL, x -> x.dish(48), Check.BEYOND);
        twins.refused("21: BEYOND ahead of FULL", FULL, x -> x.dish(-1), Check.BEYOND);
        twins.range("22: move(v, 5)", TOWN, 0, 1, (x, v) -> x.move(v, 5));
        twins.range("22: move(v, 5) of nine", FULL, 0, 8, (x, v) -> x.move(v, 5));
        twins.range("22: move(1, v)", TOWN, 0, 47, (x, v) -> x.move(1, v));
        twins.range("23: peas(v)", TOWN, 0, 1, (x, v) -> x.peas(v));
        twins.range("23: peas(v) of nine", FULL, 0, 8, (x, v) -> x.peas(v));
        twins.range("24: hears(v, 1)", TOWN, 0, 1, (x, v) -> x.hears(v, 1));
        twins.range("24: hears(v, 1) of nine", FULL, 0, 8, (x, v) -> x.hears(v, 1));
        twins.range("24: hears(1, v)", TOWN, 0, 6, (x, v) -> x.hears(1, v));
        twins.range("24: hears(1, v) of ten", FULL, 0, 9, (x, v) -> x.hears(1, v));
        for (int lost : new int[] {Towns.OURS, Towns.LOST_THEIRS, Towns.LOST_OURS}) {
            twins.refused("24: BEYOND for these too", TOWN, x -> x.hears(2, lost), Check.BEYOND);
        }
        for (int v = -1; v < 2; v++) {
            int d = v;
            twins.refused("22: move, none", EMPTY, x -> x.move(d, 0), Check.BEYOND);
            twins.refused("23: peas, none", EMPTY, x -> x.peas(d), Check.BEYOND);
            twins.refused("24: hears, none", EMPTY, x -> x.hears(d, d), Check.BEYOND);
        }
        whereAndBest();
    }

    private static void whereAndBest() {
        Consumer<PeasDrum> two = x -> Check.siege(x, "dish 0;dish 1");
        Consumer<PeasDrum> nine = x -> {
            for (int i = 0; i < 9; i++) {
                x.dish(0);
            }
        };
        Consumer<PeasDrum> nineThatHear = nine.andThen(x -> x.gallery(0, 0, 0, 0));
        Consumer<PeasDrum> twoThatHear = two.andThen(x -> x.gallery(0, 0, 0, 0));
        twins.range("25: where(v)", two, 0, 5, (x, v) -> x.where(v));
        twins.range("25: where(v) by nine", nine, 0, 5, (x, v) -> x.where(v));
        twins.refused("25: NONE", EMPTY, x -> x.where(0), Check.NONE);
        twins.refused("25: BEYOND ahead of NONE", EMPTY, x -> x.where(6), Check.BEYOND);
        twins.refused("25: BEYOND ahead of NONE", EMPTY, x -> x.where(-1), Check.BEYOND);
        twins.asks("25: no CELL is no finding", twoThatHear, x -> x.where(2), 0);
        Consumer<PeasDrum> silent = x -> Check.siege(x, "water 0 to 47;dish 0");
        twins.range("26: best(v)", silent, 0, 5, (x, v) -> x.best(v));
        twins.refused("26: NONE, no DISH", EMPTY, x -> x.best(0), Check.NONE);
        twins.refused("26: BEYOND ahead of NONE", EMPTY, x -> x.best(6), Check.BEYOND);
        twins.refused("26: NONE, no CELL", twoThatHear, x -> x.best(2), Check.NONE);
        twins.refused("26: FULL", nine, x -> x.best(2), Check.FULL);
        twins.refused("26: BEYOND ahead of FULL", nine, x -> x.best(-1), Check.BEYOND);
        twins.refused("26: NONE ahead of FULL", nineThatHear, x -> x.best(2), Check.NONE);
        twins.refused("26: FULL, one CELL", nineThatHear, x -> x.best(0), Check.FULL);
    }

    private static void powderActs() {
        twins.range("27: falls(v, 5)", TOWN, 0, 47, (x, v) -> x.falls(v, 5));
        twins.range("27: falls(20, v)", TOWN, 1, 30, (x, v) -> x.falls(20, v));
        twins.range("28: blow(v, 5)", TOWN, 0, 47, (x, v) -> x.blow(v, 5));
        twins.range("28: blow(20, v)", TOWN, 1, 30, (x, v) -> x.blow(20, v));
        twins.range("29: mine(v)", TOWN, 1, 30, (x, v) -> x.mine(v));
        twins.refused("29: NONE", EMPTY, x -> x.mine(30), Check.NONE);
        twins.refused("29: BEYOND ahead of NONE", EMPTY, x -> x.mine(31), Check.BEYOND);
        twins.refused("29: BEYOND ahead of NONE", EMPTY, x -> x.mine(0), Check.BEYOND);
    }

    private static void breadActs() {
        twins.range("30: bread(v, 5)", TOWN, 0, 2, (x, v) -> x.bread(v, 5));
        twins.range("30: bread(0, v)", TOWN, 0, 999999, (x, v) -> x.bread(0, v));
        twins.range("30: bread(1, v)", TOWN, 1, 999, (x, v) -> x.bread(1, v));
        twins.range("30: bread(2, v)", TOWN, 1, 99, (x, v) -> x.bread(2, v));
        Consumer<PeasDrum> much = x -> Check.siege(x, "bread 999999 mouths 1");
        twins.range("32: ration(v)", much, 1, 999, (x, v) -> x.ration(v));
        twins.refused("32: NONE", EMPTY, x -> x.ration(1), Check.NONE);
        twins.refused("32: NONE", TOWN, x -> x.ration(999), Check.NONE);
        twins.refused("32: BEYOND ahead of NONE", EMPTY, x -> x.ration(0), Check.BEYOND);
        twins.refused("32: BEYOND ahead of NONE", EMPTY, x -> x.ration(1000), Check.BEYOND);
    }

    private static void textActs() {
        twins.range("33: feed(0, v)", TOWN, 1, 4, (x, v) -> x.feed(0, v));
        for (int n = 1; n <= 4; n++) {
            int bytes = n;
            Consumer<PeasDrum> nearlyFull = x -> Check.feed(x, "dish 7;" + " ".repeat(114 - bytes));
            twins.refused("33: one too many of " + n, nearlyFull, x -> x.feed(0, bytes), Check.FULL);
            Consumer<PeasDrum> room = x -> Check.feed(x, " ".repeat(120 - bytes));
            twins.taken("33: just room for " + n, room, x -> x.feed(0, bytes));
            twins.refused("33: FULL", FULL, x -> x.feed(0, bytes), Check.FULL);
        }
        twins.refused("33: BEYOND ahead of FULL", FULL, x -> x.feed(0, 0), Check.BEYOND);
        twins.refused("33: BEYOND ahead of FULL", FULL, x -> x.feed(0, 5), Check.BEYOND);
    }

    private static void sheetActs() {
        twins.range("36: sheet(v, 8, 5)", TOWN, 0, 3, (x, v) -> x.sheet(v, 8, 5));
        for (int bits : new int[] {0, 8, 16, 64}) {
            String call = "36: sheet(1, " + bits + ", v)";
            twins.taken(call + " 0", TOWN, x -> x.sheet(1, bits, 0));
            twins.taken(call + " 40", TOWN, x -> x.sheet(1, bits, 40));
            twins.beyond(call, TOWN, (x, v) -> x.sheet(1, bits, v), 41, 256, 65536, Integer.MAX_VALUE);
            twins.refused(call + " -1", TOWN, x -> x.sheet(1, bits, -1), Check.SIZE);
            twins.refused(call + " least", TOWN, x -> x.sheet(1, bits, Integer.MIN_VALUE), Check.SIZE);
        }
        int[] otherBits = {-64, -16, -8, -1, 1, 7, 9, 15, 17, 24, 32, 63, 65, 128, 256 + 8, Integer.MIN_VALUE};
        twins.beyond("36: sheet(1, v, 2)", TOWN, (x, v) -> x.sheet(1, v, 2), otherBits);
        twins.range("37: write(v, 0, 5)", TOWN, 0, 2, (x, v) -> x.write(v < 3 ? v : v + 1, 0, 5));
        twins.range("37: write(0, v, 5)", TOWN, 0, 2, (x, v) -> x.write(0, v, 5));
        twins.range("37: write(3, v, 5) of forty", FULL, 0, 39, (x, v) -> x.write(3, v, 5));
        twins.beyond("39: lays(v, 5)", TOWN, (x, v) -> x.lays(v, 5), -1, 4, 256, Integer.MIN_VALUE);
        twins.range("39: lays(0, v)", TOWN, 0, 47, (x, v) -> x.lays(0, v));
        twins.beyond("40: book(v)", TOWN, (x, v) -> x.book(v), -1, 4, 256, Integer.MAX_VALUE);
        twins.beyond("41: read(v)", TOWN, (x, v) -> x.read(v), -1, 4, 256, Integer.MAX_VALUE);
        Consumer<PeasDrum> noNumber = x -> x.sheet(0, 16, 0);
        twins.beyond("37: a sheet of none", noNumber, (x, v) -> x.write(0, v, 5), -1, 0, 1);
    }

    private static void sheetOrder() {
        for (int s = 0; s < 4; s++) {
            int of = s;
            twins.refused("36: MISSING at first", EMPTY, x -> x.write(of, 0, 0), Check.MISSING);
            twins.refused("36: MISSING at first", EMPTY, x -> x.copy(of, 0, of, 0, 0), Check.MISSING);
            twins.refused("36: MISSING at first", EMPTY, x -> x.lays(of, 0), Check.MISSING);
            twins.refused("36: MISSING at first", EMPTY, x -> x.book(of), Check.MISSING);
            twins.refused("36: MISSING at first", EMPTY, x -> x.read(of), Check.MISSING);
        }
        twins.refused("36: sheet ahead of SIZE", TOWN, x -> x.sheet(4, 8, -1), Check.BEYOND);
        twins.refused("36: sheet ahead of SIZE", TOWN, x -> x.sheet(-1, 0, -1), Check.BEYOND);
        twins.refused("36: bits ahead of SIZE", TOWN, x -> x.sheet(0, 32, -1), Check.BEYOND);
        twins.refused("36: bits ahead of SIZE", TOWN, x -> x.sheet(0, -1, -1), Check.BEYOND);
        twins.refused("37: MISSING", TOWN, x -> x.write(3, 0, 5), Check.MISSING);
        twins.refused("37: MISSING ahead of BEYOND", TOWN, x -> x.write(3, -1, 5), Check.MISSING);
        twins.refused("37: MISSING ahead of BEYOND", TOWN, x -> x.write(3, 40, 5), Check.MISSING);
        twins.refused("39: MISSING", TOWN, x -> x.lays(3, 0), Check.MISSING);
        twins.refused("39: MISSING ahead of BEYOND", TOWN, x -> x.lays(3, 48), Check.MISSING);
        twins.refused("39: MISSING ahead of BEYOND", TOWN, x -> x.lays(3, -1), Check.MISSING);
        twins.refused("39: sheet ahead of cell", TOWN, x -> x.lays(4, 48), Check.BEYOND);
        twins.refused("40: MISSING", TOWN, x -> x.book(3), Check.MISSING);
        twins.refused("41: MISSING", TOWN, x -> x.read(3), Check.MISSING);
        twins.refused("41: NONE", TOWN, x -> x.read(0), Check.NONE);
    }

    private static void copyOrder() {
        int most = Integer.MAX_VALUE;
        Consumer<PeasDrum> sheets = x -> {
            x.sheet(0, 16, 5);
            x.sheet(1, 16, 3);
            x.sheet(2, 8, 5);
            for (int i = 0; i < 5; i++) {
                x.write(0, i, i + 1);
                x.write(1, i % 3, i + 11);
            }
            x.write(1, 2, 77);
        };
        twins.beyond("38: copy(v, ..)", sheets, (x, v) -> x.copy(v, 0, 0, 0, 1), -1, 4, 256, most);
        twins.beyond("38: copy(.., v, ..)", sheets, (x, v) -> x.copy(0, 0, v, 0, 1), -1, 4, 256, most);
        twins.beyond("38: ahead of MISSING", sheets, (x, v) -> x.copy(v, 0, 3, 0, 1), -1, 4);
        twins.beyond("38: ahead of MISSING", sheets, (x, v) -> x.copy(3, 0, v, 0, 1), -1, 4);
        twins.refused("38: MISSING", sheets, x -> x.copy(3, 0, 0, 0, 1), Check.MISSING);
        twins.refused("38: MISSING", sheets, x -> x.copy(0, 0, 3, 0, 1), Check.MISSING);
        twins.refused("38: MISSING, both", sheets, x -> x.copy(3, 0, 3, 0, 0), Check.MISSING);
        twins.refused("38: MISSING ahead of BEYOND", sheets, x -> x.copy(3, -1, 0, 9, -1), Check.MISSING);
        twins.refused("38: MISSING ahead of BEYOND", sheets, x -> x.copy(0, 9, 3, -1, most), Check.MISSING);
        twins.refused("38: KIND", sheets, x -> x.copy(0, 0, 2, 0, 1), Check.KIND);
        twins.refused("38: KIND", sheets, x -> x.copy(2, 0, 0, 0, 1), Check.KIND);
        twins.refused("38: KIND of none", sheets, x -> x.copy(2, 0, 0, 0, 0), Check.KIND);
        twins.refused("38: KIND ahead of BEYOND", sheets, x -> x.copy(2, -1, 0, 9, -1), Check.KIND);
        int[][] beyond = {{0, -1, 1, 0, 1}, {0, 0, 1, -1, 1}, {0, 0, 1, 0, -1}, {0, -1, 1, -1, 0},
            {0, 5, 1, 0, 1}, {0, 3, 1, 0, 3}, {0, 0, 1, 3, 1}, {0, 0, 1, 0, 4}, {0, 0, 1, 1, 3},
            {1, 0, 0, 0, 4}, {1, 1, 0, 0, 3}, {1, 0, 0, 3, 3}, {0, 0, 0, 0, 6}, {0, 1, 0, 0, 5},
            {0, 0, 0, 1, 5}, {0, most, 1, 0, 1}, {0, 0, 1, most, 1}, {0, 0, 1, 0, most},
            {0, most, 0, most, most}, {0, 1, 0, 1, most}, {0, Integer.MIN_VALUE, 1, 0, 1},
            {0, 0, 1, Integer.MIN_VALUE, 1}, {0, 0, 1, 0, Integer.MIN_VALUE}, {0, 1, 1, 1, Integer.MIN_VALUE}};
        for (int[] a : beyond) {
            String call = "38: copy" + java.util.Arrays.toString(a);
            twins.refused(call, sheets, x -> x.copy(a[0], a[1], a[2], a[3], a[4]), Check.BEYOND);
        }
        int[][] right = {{0, 0, 1, 0, 3}, {0, 2, 1, 0, 3}, {1, 0, 0, 2, 3}, {0, 5, 1, 3, 0}, {0, 0, 0, 0, 5},
            {0, 4, 1, 2, 1}, {0, 0, 0, 1, 4}, {0, 1, 0, 0, 4}};
        for (int[] a : right) {
            String call = "38: copy" + java.util.Arrays.toString(a);
            twins.taken(call, sheets, x -> x.copy(a[0], a[1], a[2], a[3], a[4]));
        }
    }

    private static void imageActs() {
        Consumer<PeasDrum> torn = x -> {
            Towns.someTown(x);
            x.tear();
        };
        twins.refused("43: NONE at first", EMPTY, x -> x.undo(), Check.NONE);
        twins.refused("43: NONE behind tear()", torn, x -> x.undo(), Check.NONE);
        twins.range("45: count(v)", TOWN, 0, 6, (x, v) -> x.count(v));
        twins.range("46: status(v)", TOWN, -1, 6, (x, v) -> x.status(v));
    }

    private static void askingChangesNothing() {
        twins.asks("4: cellOf(46, 2)", TOWN, x -> x.cellOf(46, 2), 1);
        twins.asks("5: walls()", TOWN, x -> x.walls(), Check.set(12, 22, 30));
        twins.asks("6: far(0, 47)", TOWN, x -> x.far(0, 47), 12);
        twins.asks("8: of(1, 4)", TOWN, x -> x.of(1, 4), 1);
        twins.asks("11: as(2, 1)", TOWN, x -> x.as(2, 1), 46);
        twins.asks("12: does(2, 22, 0)", TOWN, x -> x.does(2, 22, 0), 6);
        twins.asks("14: now(0)", TOWN, x -> x.now(0), 1);
        twins.asks("23: peas(0)", TOWN, x -> x.peas(0), 10 / 2 + 18 / 6);
        twins.asks("24: hears(0, 4)", TOWN, x -> x.hears(0, 4), 18 / 6);
        twins.asks("25: where(0)", TOWN, x -> x.where(0), 0);
        twins.asks("26: best(4)", x -> Check.siege(x, "feint theirs at 0 way 0;dish 47"), x -> x.best(4), 0);
        twins.asks("27: falls(21, 5)", TOWN, x -> x.falls(21, 5), 0);
        twins.asks("27: falls(21, 8)", TOWN, x -> x.falls(21, 8), 3);
        twins.asks("29: mine(30)", TOWN, x -> x.mine(30), 0);
        twins.asks("31: lasts()", TOWN, x -> x.lasts(), 5000 / 20 - (8 + 7 + 6 + 5 + 4 + 3 + 2) * 5 + 35);
        twins.asks("32: ration(1)", TOWN, x -> x.ration(1), 99);
        twins.asks("45: count(3)", TOWN, x -> x.count(3), 11);
        twins.asks("46: status(-1)", TOWN, x -> x.status(-1), 0);
    }

    private static void askingOnChangesNothing() {
        twins.asks("15: on(1, 99)", TOWN, x -> x.on(Towns.THEIRS, 99), 7);
        twins.asks("16: lost(4), MET", TOWN, x -> x.lost(4), 11);
        twins.asks("17: first()", x -> Check.siege(x, "wall 7;sap theirs at 0 way 1"), x -> x.first(), 0);
        twins.asks("18: comes(2, 7)", TOWN, x -> x.comes(2, 7), 12);
        twins.asks("19: meets(0, 4)", TOWN, x -> x.meets(Towns.OURS, 4), 1);
        twins.asks("20: whose(4)", TOWN, x -> x.whose(4), 0);
        Consumer<PeasDrum> heard = x -> {
            Check.siege(x, "gallery theirs at 0 way 1;dish 5");
            x.sheet(0, 64, 1);
            x.write(0, 0, 12);
        };
        twins.asks("41: read(0)", heard, x -> x.read(0), 5);
    }
}
