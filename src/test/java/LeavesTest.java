import java.util.Arrays;
import java.util.TreeSet;
import java.util.function.Consumer;
import java.util.function.ToLongFunction;

/** Each act changes just what its promise says, and leaves all else as it is. */
public final class LeavesTest {
    private static final Check check = new Check();
    private static final Consumer<PeasDrum> EMPTY = Towns::empty;
    private static final Consumer<PeasDrum> TOWN = Towns::someTown;
    private static final Consumer<PeasDrum> FULL = Towns::fullTown;

    public static void main(String[] args) {
        groundActs();
        galleryActs();
        nights();
        dishActs();
        powderAndBread();
        textActs();
        siegeItems();
        sheetActs();
        numbersOfSheets();
        imageActs();
        check.end();
    }

    /** The names of the parts of a town that are others by an act. */
    private static TreeSet<String> changedBy(Consumer<PeasDrum> town, ToLongFunction<PeasDrum> act) {
        PeasDrum x = new PeasDrum();
        town.accept(x);
        act.applyAsLong(x);
        PeasDrum twin = new PeasDrum();
        town.accept(twin);
        return new Parts(x).differing(new Parts(twin));
    }

    /** An act on a town changes these parts of it, and no others. */
    private static void changes(String what, Consumer<PeasDrum> town, ToLongFunction<PeasDrum> act,
            String... parts) {
        TreeSet<String> changed = changedBy(town, act);
        TreeSet<String> due = new TreeSet<>(Arrays.asList(parts));
        check.isTrue(what + " changes " + due + ", not " + changed, changed.equals(due));
    }

    private static String[] galleryParts(int g) {
        String name = "gallery " + g + " ";
        return new String[] {name + "kind", name + "side", name + "head", name + "way", name + "done",
            name + "lost"};
    }

    private static void groundActs() {
        for (int v = 1; v < 4; v++) {
            int stuff = v;
            changes("2: a free CELL", TOWN, x -> x.ground(0, stuff), "stuff 0");
            changes("2: a CELL with a HEAD", TOWN, x -> x.ground(46, stuff), "stuff 46");
            changes("2: a CELL with a DISH", TOWN, x -> x.ground(3, stuff), "stuff 3");
            changes("2: a CELL below the WALL", TOWN, x -> x.ground(30, stuff), "stuff 30");
        }
        changes("2: as it was", TOWN, x -> x.ground(12, 1));
        changes("3: a new one", TOWN, x -> x.wall(47, true), "wall 47");
        changes("3: above WATER", TOWN, x -> x.wall(Towns.WATER, true), "wall 17");
        changes("3: no more", TOWN, x -> x.wall(22, false), "wall 22");
        changes("3: as it was", TOWN, x -> x.wall(22, true));
        changes("3: as it was", TOWN, x -> x.wall(21, false));
    }

    private static void galleryActs() {
        for (int side = 0; side < 2; side++) {
            int of = side;
            changes("7: a new one", TOWN, x -> x.gallery(0, of, 20, 0), galleryParts(7));
            changes("7: in SAND", TOWN, x -> x.gallery(0, of, 12, 0), galleryParts(7));
            changes("7: in WATER", TOWN, x -> x.gallery(5, of, Towns.WATER, 0), galleryParts(7));
            changes("7: on a HEAD", TOWN, x -> x.gallery(3, of, 46, 0), galleryParts(7));
        }
        changes("9: another WAY", TOWN, x -> x.turn(Towns.THEIRS, 2), "gallery 1 way", "gallery 1 done");
        changes("9: the same WAY", TOWN, x -> x.turn(Towns.THEIRS, 1));
        changes("9: with DONE 0", TOWN, x -> x.turn(Towns.OURS, 3), "gallery 0 way");
        changes("10: become", TOWN, x -> x.become(Towns.THEIRS, 4), "gallery 1 kind");
        changes("10: as it was", TOWN, x -> x.become(Towns.THEIRS, 1));
        changes("10: a LOST one", TOWN, x -> x.become(Towns.LOST_OURS, 5), "gallery 6 kind");
        changes("10: in SAND", x -> Check.siege(x, "sand 5;mine ours at 5 way 2"), x -> x.become(0, 0),
                "gallery 0 kind");
    }

    private static void nights() {
        changes("13: nobody digs", EMPTY, x -> x.nights(1), "night");
        changes("13: a town", TOWN, x -> x.nights(1), "night", "gallery 0 head", "gallery 1 head",
                "gallery 1 done", "gallery 2 head", "gallery 2 done", "gallery 4 head");
        changes("13: at the edge", x -> x.gallery(0, 1, 0, 0), x -> x.nights(60), "night");
        changes("13: into SAND", x -> Check.siege(x, "sand 1;sap theirs at 0 way 1"), x -> x.nights(1),
                "night", "gallery 0 head", "gallery 0 lost");
        changes("13: WATER", x -> Check.siege(x, "water 1;sap theirs at 0 way 1"), x -> x.nights(1),
                "night", "gallery 0 lost");
        changes("13: MET", x -> Check.siege(x, "sap theirs at 0 way 0;sap ours at 1 way 0"),
                x -> x.nights(1), "night", "gallery 0 lost", "met");
    }

    private static void dishActs() {
        changes("21: a new one", TOWN, x -> x.dish(5), "dish 2");
        changes("21: where one is", TOWN, x -> x.dish(20), "dish 2");
        changes("22: move", TOWN, x -> x.move(1, 5), "dish 1");
        changes("22: to where one is", TOWN, x -> x.move(1, 3), "dish 1");
        changes("22: to where it is", TOWN, x -> x.move(1, 20));
    }

    private static void powderAndBread() {
        changes("28: nothing there", TOWN, x -> x.blow(0, 1));
        changes("28: too weak for ROCK", TOWN, x -> x.blow(22, 4), "wall 30");
        changes("28: ROCK below the WALL", TOWN, x -> x.blow(22, 5), "wall 22", "wall 30", "stuff 22");
        changes("28: a HEAD", TOWN, x -> x.blow(4, 3), "gallery 1 lost");
        changes("28: SAND and WATER", TOWN, x -> x.blow(11, 7), "wall 12", "gallery 1 lost");
        changes("30: OUNCES", TOWN, x -> x.bread(0, 1), "ounces");
        changes("30: MOUTHS", TOWN, x -> x.bread(1, 1), "mouths");
        changes("30: RATION", TOWN, x -> x.bread(2, 1), "ration");
    }

    private static void textActs() {
        // The town's text has a fault at its end, which comes later by what is fed.
        changes("33: feed", TOWN, x -> x.feed(' ', 1), "tape", "text");
        changes("34: wipe", TOWN, x -> x.wipe(), "tape", "text");
        changes("35: a FAULT", TOWN, x -> x.siege(), "tape", "text");
    }

    private static void siege(String text, String... parts) {
        Consumer<PeasDrum> townWithoutText = TOWN.andThen(x -> x.wipe());
        changes("35: " + text, townWithoutText, x -> Check.siege(x, text), parts);
    }

    private static void siegeItems() {
        siege("clay 21", "stuff 21");
        siege("sand 46 47", "stuff 46", "stuff 47");
        siege("rock 30", "stuff 30");
        siege("water 3 to 5", "stuff 3", "stuff 4", "stuff 5");
        siege("wall 20 to 22", "wall 20", "wall 21");
        siege("wall 9 12", "wall 9");
        siege("sap ours at 46 way 0", galleryParts(7));
        siege("deep theirs at 17 way 3", galleryParts(7));
        siege("dish 20", "dish 2");
        siege("bread 8", "ounces");
        siege("bread 8 mouths 8", "ounces", "mouths");
        siege("bread 8 ration 9", "ounces", "ration");
        siege("bread 8 mouths 8 ration 9", "ounces", "mouths", "ration");
        siege("bread 5000 mouths 20 ration 8");
        siege("dish 4;wall 0;bread 8 mouths 0");
    }

    private static void sheetActs() {
        Consumer<PeasDrum> four = x -> {
            for (int s = 0; s < 4; s++) {
                x.sheet(s, 16, 2);
                x.write(s, 0, s + 1);
                x.write(s, 1, s + 11);
            }
        };
        for (int s = 0; s < 4; s++) {
            int of = s;
            String name = "sheet " + s + " ";
            changes("36: MISSING", four, x -> x.sheet(of, 0, 2), name + "number 0", name + "number 1",
                    name + "end", name + "bits");
            changes("36: anew", four, x -> x.sheet(of, 16, 2), name + "number 0", name + "number 1");
            changes("36: other bits", four, x -> x.sheet(of, 64, 1), name + "number 0", name + "number 1",
                    name + "bits");
            changes("37: write", four, x -> x.write(of, 1, 9), name + "number 1");
            changes("38: copy", four, x -> x.copy((of + 1) % 4, 0, of, 1, 1), name + "number 1");
            changes("38: within one", four, x -> x.copy(of, 1, of, 0, 1), name + "number 0");
            changes("38: of none", four, x -> x.copy(of, 1, of, 0, 0));
        }
    }

    private static void numbersOfSheets() {
        changes("39: lays", TOWN, x -> x.lays(0, 45), "stuff 45", "stuff 46");
        changes("39: numbers that are no STUFF", TOWN, x -> x.lays(1, 8), "stuff 9");
        changes("40: book", TOWN, x -> x.book(0), "sheet 0 number 0", "sheet 0 number 1");
        changes("40: more DISHES than numbers", TOWN, x -> x.book(2), "sheet 2 number 0");
        changes("40: no DISH", x -> x.sheet(0, 8, 40), x -> x.book(0));
    }

    /** An act changes some of the parts with such names, and no others. */
    private static void changesOnly(String what, Consumer<PeasDrum> town, ToLongFunction<PeasDrum> act,
            String names) {
        TreeSet<String> changed = changedBy(town, act);
        check.isTrue(what + " changes something", !changed.isEmpty());
        changed.removeIf(name -> name.matches(names));
        check.isTrue(what + " doesn't change " + changed, changed.isEmpty());
    }

    private static void imageActs() {
        changesOnly("42: a new image", TOWN, x -> x.image(), "kept .*");
        changesOnly("42: a new image", FULL, x -> x.image(), "kept .*");
        changesOnly("42: the first image", EMPTY, x -> x.image(), "keeps|kept .*");
        changesOnly("44: tear", TOWN, x -> x.tear(), "keeps|kept .*");
        changes("44: nothing is kept", EMPTY, x -> x.tear());
        String camp = "(stuff|wall|gallery|dish) .*|night|met|ounces|mouths|ration";
        changesOnly("43: undo", TOWN, x -> x.undo(), camp);
        changesOnly("43: undo", FULL, x -> x.undo(), camp);
        changes("43: twice is as once", TOWN.andThen(x -> x.undo()), x -> x.undo());
        changes("42: as it is", TOWN.andThen(x -> x.image()), x -> x.image());
        changes("43: as it is", TOWN.andThen(x -> x.image()), x -> x.undo());
    }
}
