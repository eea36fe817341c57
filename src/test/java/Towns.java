/** Objects in which there is something of all, for tests of what acts leave as it is. */
final class Towns {
    /** Galleries of someTown: 7 of them. */
    static final int OURS = 0;
    static final int THEIRS = 1;
    static final int LOST_THEIRS = 3;
    static final int MET_THEIRS = 5;
    static final int LOST_OURS = 6;
    /** Its CELL of WATER. */
    static final int WATER = 17;

    private Towns() {
    }

    static void empty(PeasDrum x) {
        // A new object is just that.
    }

    /** 7 galleries, 2 dishes, sheets of 8, 16 and 64 bits and a MISSING one, a tape, an image. */
    static void someTown(PeasDrum x) {
        Check.siege(x, "sand 12;wall 12 30;sap ours at 40 way 1;dish 3;bread 77 mouths 7 ration 8");
        x.image();
        Check.siege(x, "rock 21 22;water 9 17;wall 22;propped theirs at 4 way 1;mine ours at 46 way 3;"
                + "gallery theirs at 16 way 1");
        Check.siege(x, "feint theirs at 35 way 3;gallery theirs at 47 way 1;gallery ours at 8 way 1;"
                + "dish 20;bread 5000 mouths 20");
        x.nights(1);
        x.sheet(0, 8, 3);
        x.sheet(1, 16, 2);
        x.sheet(2, 64, 1);
        x.write(0, 0, 1);
        x.write(0, 1, 2);
        x.write(0, 2, 9);
        x.write(1, 0, 300);
        x.write(2, 0, 1L << 40);
        Check.feed(x, "dish 1;dish");
    }

    /** A town in which that many nights have gone. */
    static void townAt(PeasDrum x, int night) {
        someTown(x);
        Check.waitUntil(x, night);
    }

    /** As many galleries, dishes, numbers and bytes as can be. */
    static void fullTown(PeasDrum x) {
        for (int i = 0; i < 10; i++) {
            x.gallery(i % 6, i % 2, 4 * i, i % 4);
        }
        for (int i = 0; i < 9; i++) {
            x.dish(5 * i);
        }
        x.image();
        Check.siege(x, "rock 0 to 20;wall 0 to 47;bread 999999 mouths 999 ration 99");
        for (int i = 0; i < 30; i++) {
            x.feed(' ' << 24 | ' ' << 16 | ' ' << 8 | ' ', 4);
        }
        x.sheet(0, 8, 40);
        x.sheet(3, 8, 40);
        x.write(3, 39, 5);
    }
}
