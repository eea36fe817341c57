/** Promises 33 to 35: feed, wipe, siege. */
public final class TextTest {
    private static final Check check = new Check();

    public static void main(String[] args) {
        feed();
        groundItems();
        galleryItems();
        dishItems();
        breadItems();
        tokens();
        faults();
        nothingChangesByFault();
        full();
        check.end();
    }

    private static void feed() {
        PeasDrum x = new PeasDrum();
        check.due("33: feed(0, 0)", x.feed(0, 0), Check.BEYOND);
        check.due("33: feed(0, 5)", x.feed(0, 5), Check.BEYOND);
        check.due("33: feed(0, -1)", x.feed(0, -1), Check.BEYOND);
        check.due("34: wipe()", x.wipe(), 0);
        for (int i = 1; i <= 29; i++) {
            check.due("33: feed(0, 4)", x.feed(0, 4), 4 * i);
        }
        check.due("33: feed(0, 3)", x.feed(0, 3), 119);
        check.due("33: no room for two", x.feed(0, 2), Check.FULL);
        check.due("33: BEYOND ahead of FULL", x.feed(0, 5), Check.BEYOND);
        check.due("33: room for one", x.feed(0, 1), 120);
        check.due("33: no room", x.feed(0, 1), Check.FULL);
        check.due("33: count(3)", x.count(3), 120);
        check.due("34: wipe()", x.wipe(), 120);
        check.due("34: wipe()", x.wipe(), 0);
        check.due("33: status(1)", x.status(1), 2);
        order();
    }

    private static void order() {
        PeasDrum x = new PeasDrum();
        x.feed('d' << 24 | 'i' << 16 | 's' << 8 | 'h', 4);
        x.feed(0x7f000000 | ' ' << 16 | '4' << 8 | '7', 2);
        check.due("33: the highest first", x.siege(), 1);
        check.due("33: the highest first", x.move(0, 0), 47);
        x.feed('x' << 16 | 'd' << 8 | 'i', 2);
        x.feed('s' << 16 | 'h' << 8 | ' ', 3);
        x.feed(0xffffff00 | '9', 1);
        check.due("33: the lowest alone", x.siege(), 1);
        check.due("33: the lowest alone", x.move(1, 0), 9);
        Check.feed(x, "dish 1");
        check.due("34: wipe()", x.wipe(), 6);
        check.due("35: an empty TAPE ends too early", x.siege(), -1);
    }

    private static void siege(PeasDrum x, String text, int due) {
        check.due("35: '" + text + "'", Check.siege(x, text), due);
        check.due("35: THE TAPE behind '" + text + "'", x.count(3), 0);
    }

    private static void groundItems() {
        PeasDrum x = new PeasDrum();
        siege(x, "sand 0 1 47; rock 4 to 6; water 8 10 to 12; wall 20 22 to 23", 4);
        int[] stuff = new int[48];
        stuff[0] = stuff[1] = stuff[47] = 1;
        stuff[4] = stuff[5] = stuff[6] = 2;
        stuff[8] = stuff[10] = stuff[11] = stuff[12] = 3;
        for (int cell = 0; cell < 48; cell++) {
            check.due("35: STUFF of " + cell, x.cellOf(cell, 0), stuff[cell]);
        }
        check.due("35: WALL", x.walls(), Check.set(20, 22, 23));
        siege(x, "wall 0; clay 0 to 47; rock 20; sand 20", 4);
        check.due("35: WALL is added to", x.walls(), Check.set(0, 20, 22, 23));
        check.due("35: CLAY", x.cellOf(8, 0), 0);
        check.due("35: the later one", x.cellOf(20, 0), 1);
        siege(x, "wall 0 to 47", 1);
        check.due("35: WALL everywhere", x.count(2), 48);
    }

    private static void galleryItems() {
        PeasDrum x = new PeasDrum();
        String[] kinds = {"gallery", "propped", "sap", "mine", "feint", "deep"};
        for (int kind = 0; kind < kinds.length; kind++) {
            String side = kind % 2 == 0 ? "theirs" : "ours";
            siege(x, kinds[kind] + " " + side + " at " + (42 + kind) + " way " + kind % 4, 1);
            check.due("35: KIND", x.of(kind, 0), kind);
            check.due("35: SIDE", x.of(kind, 1), kind % 2);
            check.due("35: HEAD", x.of(kind, 2), 42 + kind);
            check.due("35: WAY", x.of(kind, 3), kind % 4);
            check.due("35: DONE, LOST", x.of(kind, 4) + x.of(kind, 5), 0);
        }
        PeasDrum y = new PeasDrum();
        y.image();
        y.gallery(1, 0, 0, 1);
        y.nights(1);
        y.blow(0, 5);
        y.undo();
        siege(y, "gallery theirs at 3 way 2", 1);
        check.due("35: DONE of a new one", y.of(0, 4), 0);
        check.due("35: LOST of a new one", y.of(0, 5), 0);
    }

    private static void dishItems() {
        PeasDrum x = new PeasDrum();
        siege(x, "dish 0;dish 47;dish 9", 3);
        check.due("35: count(1)", x.count(1), 3);
        check.due("35: DISH 1", x.move(1, 0), 47);
        check.due("35: DISH 2", x.move(2, 0), 9);
    }

    private static void breadItems() {
        PeasDrum x = new PeasDrum();
        bread(x, "bread 999999", 999999, 10, 16);
        bread(x, "bread 5 mouths 999", 5, 999, 16);
        bread(x, "bread 6 ration 99", 6, 999, 99);
        bread(x, "bread 0 mouths 1 ration 1", 0, 1, 1);
        siege(x, "bread 1 ration 5 mouths 5", -18);
        siege(x, "bread 1 mouths 0", -16);
        siege(x, "bread 1 mouths 1000", -16);
        siege(x, "bread 1 ration 0", -16);
        siege(x, "bread 1 ration 100", -16);
        siege(x, "bread 1 mouths 2 mouths 3", -18);
        siege(x, "bread", -6);
        siege(x, "bread 1 mouths", -15);
        siege(x, "bread 1 ration", -15);
        siege(x, "bread 1 mouths 2 ration", -24);
        siege(x, "bread 1 2", -9);
        siege(x, "bread 1000000", -7);
        siege(x, "bread mouths 2", -7);
        check.due("35: unchanged", 10000 * x.count(4) + 100 * x.count(5) + x.count(6), 101);
    }

    private static void bread(PeasDrum x, String text, int ounces, int mouths, int ration) {
        siege(x, text, 1);
        check.due("35: OUNCES of " + text, x.count(4), ounces);
        check.due("35: MOUTHS of " + text, x.count(5), mouths);
        check.due("35: RATION of " + text, x.count(6), ration);
    }

    private static void tokens() {
        PeasDrum x = new PeasDrum();
        siege(x, "rock5to7", 1);
        check.due("35: blanks may, but need not", x.cellOf(6, 0), 2);
        siege(x, "   sand   9   ;   dish   3   ", 2);
        check.due("35: blanks everywhere", x.cellOf(9, 0), 1);
        siege(x, "mine ours at0way3;dish1", 2);
        siege(x, "rock 000000000000000000012", 1);
        check.due("35: noughts ahead", x.cellOf(12, 0), 2);
        siege(x, "bread 0999999", 1);
        siege(x, "bread 99999999999999999999999", -7);
        siege(x, "bread 4294967297", -7);
        siege(x, "dish 18446744073709551617", -6);
        siege(x, "rockto 5", -1);
        siege(x, "fish 5", -1);
        siege(x, "disk 5", -1);
        siege(x, "dishz 5", -1);
        siege(x, "dish 5z", -7);
        siege(x, "roc k 5", -1);
        siege(x, "Rock 5", -1);
        siege(x, "rock 5\t6", -7);
        siege(x, "rock 5\n", -7);
        siege(x, "rock 5.", -7);
        siege(x, "rock -5", -6);
        siege(x, "rock 5" + (char) 0, -7);
        siege(x, "rock 5" + (char) 225, -7);
        siege(x, "rock 5" + (char) 160, -7);
        siege(x, "`", -1);
        siege(x, "{", -1);
        siege(x, "dish 1/", -7);
        siege(x, "dish 1:", -7);
        siege(x, "dish 12;dish 1 2", -16);
    }

    private static void faults() {
        PeasDrum x = new PeasDrum();
        siege(x, "", -1);
        siege(x, "    ", -5);
        siege(x, ";", -1);
        siege(x, "dish 1;", -8);
        siege(x, "dish 1;  ", -10);
        siege(x, "dish 1;;dish 2", -8);
        siege(x, "dish 1 dish 2", -8);
        siege(x, "dish", -5);
        siege(x, "dish ", -6);
        siege(x, "5", -1);
        siege(x, "dishes 5", -1);
        siege(x, "dis 5", -1);
        siege(x, "to 5", -1);
        siege(x, "rock", -5);
        siege(x, "rock ;", -6);
        siege(x, "rock to 5", -6);
        siege(x, "rock 48", -6);
        siege(x, "rock 5 5", -8);
        siege(x, "rock 5 4", -8);
        siege(x, "rock 5 48", -8);
        siege(x, "rock 5 to", -10);
        siege(x, "rock 5 to 5", -11);
        siege(x, "rock 5 to 48", -11);
        siege(x, "rock 5 to 6 7", -13);
        siege(x, "rock 5 to 6 to 7", -13);
        siege(x, "rock 5 to to", -11);
        siege(x, "rock 47 to", -11);
        siege(x, "wall 3 way", -8);
        siege(x, "gallery", -8);
        siege(x, "gallery ours", -13);
        siege(x, "gallery ours at", -16);
        siege(x, "gallery ours at 5", -18);
        siege(x, "gallery at 5 way 0", -9);
        siege(x, "gallery ours 5 way 0", -14);
        siege(x, "gallery ours at way 0", -17);
        siege(x, "gallery ours at 48 way 0", -17);
        siege(x, "gallery ours at 47 0", -20);
        siege(x, "gallery ours at 47 way", -23);
        siege(x, "gallery ours at 47 way 4", -24);
        siege(x, "gallery theirs at 47 way 3 2", -28);
        siege(x, "gallery theirs ours at 47 way 3", -16);
        siege(x, "dish 48", -6);
        siege(x, "dish ours", -6);
        check.due("35: no finding", x.status(-1), 0);
        check.due("35: nothing came", x.count(0) + x.count(1) + x.count(2), 0);
        check.due("35: nothing came", x.cellOf(5, 0), 0);
    }

    private static void nothingChangesByFault() {
        PeasDrum x = new PeasDrum();
        siege(x, "rock 5;wall 6;deep ours at 7 way 1;dish 8;bread 9 mouths 8 ration 7;rock", -73);
        check.due("35: STUFF", x.cellOf(5, 0), 0);
        check.due("35: WALL", x.walls(), 0);
        check.due("35: GALLERIES", x.count(0), 0);
        check.due("35: DISHES", x.count(1), 0);
        check.due("35: OUNCES", x.count(4), 0);
        check.due("35: MOUTHS", x.count(5), 10);
        check.due("35: RATION", x.count(6), 16);
    }

    private static void full() {
        PeasDrum x = new PeasDrum();
        for (int i = 0; i < 9; i++) {
            x.gallery(0, 0, 0, 0);
        }
        siege(x, "sap ours at 0 way 0;sap ours at 0 way 0", -21);
        check.due("35: the 10th came not", x.count(0), 9);
        siege(x, "sap ours at 0 way 0", 1);
        siege(x, "dish 0; deep", -9);
        siege(x, "deep", -1);
        for (int i = 0; i < 9; i++) {
            siege(x, "dish 5", 1);
        }
        siege(x, "wall 1;dish", -8);
        siege(x, "wall 1;dish 5", -8);
        check.due("35: WALL", x.walls(), 0);
        StringBuilder longest = new StringBuilder();
        for (int i = 0; i < 15; i++) {
            longest.append("rock 5; ");
        }
        longest.setLength(118);
        longest.append("  ");
        siege(x, longest.toString(), 15);
    }
}
