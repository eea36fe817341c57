/** Promises 1 to 14 at their edges: none and as many as can be, the first and the last of each. */
public final class GalleryEdgeTest {
    private static final Check check = new Check();

    public static void main(String[] args) {
        newObject();
        groundKeepsTheRest();
        wallOfEachCell();
        headsOfACell();
        walls();
        tenGalleries();
        turnEachWay();
        becomeEachKind();
        asEachKind();
        doesInWater();
        lostByNights();
        allAreLost();
        nowCounts();
        lastCalls();
        check.end();
    }

    private static void newObject() {
        PeasDrum x = new PeasDrum();
        for (int which = -1; which < 7; which++) {
            check.due("1: status(" + which + ")", x.status(which), 0);
        }
        check.due("1: no GALLERY", x.of(0, 0), Check.BEYOND);
        check.due("1: no DISH", x.peas(0), Check.BEYOND);
        check.due("1: THE TAPE is empty", x.wipe(), 0);
        check.due("1: THE TAPE is empty", x.siege(), -1);
        check.due("1: no image", x.tear(), 0);
        check.due("1: no image", x.undo(), Check.NONE);
        check.due("1: no bread", x.lasts(), 0);
        check.due("1: the first GALLERY", x.gallery(0, 0, 0, 0), 0);
        check.due("1: the first DISH", x.dish(0), 0);
        check.due("1: the first byte", x.feed(0, 1), 1);
    }

    private static void groundKeepsTheRest() {
        PeasDrum x = new PeasDrum();
        for (int cell = 0; cell < 48; cell++) {
            int was = 0;
            for (int v = 3; v >= 0; v--) {
                check.due("2: ground(" + cell + ", " + v + ")", x.ground(cell, v), was);
                check.due("2: then", x.cellOf(cell, 0), v);
                was = v;
            }
        }
        PeasDrum y = new PeasDrum();
        y.wall(20, true);
        y.gallery(1, 0, 20, 1);
        y.nights(1);
        y.dish(20);
        for (int v = 0; v < 4; v++) {
            y.ground(20, v);
            y.ground(21, v);
            check.due("2: the same again", y.ground(20, v), v);
            check.due("2: WALL stays", y.cellOf(20, 1), 1);
            check.due("2: HEAD stays", y.cellOf(20, 2), 1);
            check.due("2: DONE stays", y.of(0, 4), 1);
            check.due("2: not LOST", y.of(0, 5), 0);
            check.due("2: only that CELL", y.cellOf(19, 0) + y.cellOf(22, 0) + y.cellOf(12, 0), 0);
        }
    }

    private static void wallOfEachCell() {
        PeasDrum x = new PeasDrum();
        for (int cell = 0; cell < 48; cell++) {
            check.due("3: not there", x.wall(cell, false), 0);
            check.due("3: new", x.wall(cell, true), 1);
            check.due("3: not new", x.wall(cell, true), 0);
            check.due("5: walls()", x.walls(), (1L << cell + 1) - 1);
            check.due("4: cellOf(" + cell + ", 1)", x.cellOf(cell, 1), 1);
        }
        check.due("45: count(2)", x.count(2), 48);
        for (int cell = 0; cell < 48; cell++) {
            check.due("3: no more, new", x.wall(cell, false), 1);
            check.due("3: no more, not new", x.wall(cell, false), 0);
            check.due("4: cellOf(" + cell + ", 1)", x.cellOf(cell, 1), 0);
        }
        check.due("5: walls()", x.walls(), 0);
    }

    private static void headsOfACell() {
        PeasDrum x = new PeasDrum();
        for (int i = 0; i < 10; i++) {
            check.due("4: " + i + " HEADS", x.cellOf(47, 2), i);
            x.gallery(i % 6, i % 2, 47, i % 4);
        }
        check.due("4: ten HEADS", x.cellOf(47, 2), 10);
        check.due("4: none there", x.cellOf(46, 2), 0);
        x.blow(47, 1);
        check.due("4: ten LOST ones", x.cellOf(47, 2), 0);
    }

    private static void walls() {
        PeasDrum x = new PeasDrum();
        check.due("5: none", x.walls(), 0);
        Check.siege(x, "wall 0 to 47");
        check.due("5: all", x.walls(), 0xffffffffffffL);
        x.wall(31, false);
        x.wall(47, false);
        check.due("5: all but two", x.walls(), 0x7fff7fffffffL);
    }

    private static void tenGalleries() {
        PeasDrum x = new PeasDrum();
        int[] cells = {0, 47, 7, 40, 31, 32, 8, 15, 20, 46};
        for (int i = 0; i < 10; i++) {
            check.due("45: count(0)", x.count(0), i);
            check.due("8: of one that is to come", x.of(i, 0), Check.BEYOND);
            check.due("7: gallery " + i, x.gallery(i % 6, i % 2, cells[i], 3 - i % 4), i);
        }
        check.due("7: an 11th", x.gallery(0, 0, 0, 0), Check.FULL);
        check.due("45: count(0)", x.count(0), 10);
        for (int i = 0; i < 10; i++) {
            int[] due = {i % 6, i % 2, cells[i], 3 - i % 4, 0, 0};
            for (int what = 0; what < 6; what++) {
                check.due("8: of(" + i + ", " + what + ")", x.of(i, what), due[what]);
            }
        }
        x.blow(20, 30);
        check.due("7: LOST ones keep their numbers", x.gallery(0, 0, 0, 0), Check.FULL);
    }

    private static void turnEachWay() {
        for (int from = 0; from < 4; from++) {
            for (int to = 0; to < 4; to++) {
                PeasDrum x = new PeasDrum();
                x.gallery(1, 1, 20, from);
                x.nights(1);
                check.due("9: turn(0, " + to + ")", x.turn(0, to), from);
                check.due("9: WAY", x.of(0, 3), to);
                check.due("9: DONE", x.of(0, 4), from == to ? 1 : 0);
                check.due("9: HEAD", x.of(0, 2), 20);
                check.due("9: KIND", x.of(0, 0), 1);
                x.turn(0, from);
                check.due("9: turned back", x.of(0, 4), from == to ? 1 : 0);
            }
        }
    }

    private static void becomeEachKind() {
        for (int from = 0; from < 6; from++) {
            for (int to = 0; to < 6; to++) {
                PeasDrum x = new PeasDrum();
                x.ground(21, 2);
                x.gallery(from, 1, 20, 1);
                x.nights(1);
                check.due("10: become(0, " + to + ")", x.become(0, to), from);
                int[] due = {to, 1, 20, 1, 1, 0};
                for (int what = 0; what < 6; what++) {
                    check.due("10: then of(0, " + what + ")", x.of(0, what), due[what]);
                }
                x.blow(20, 1);
                check.due("10: a LOST one too", x.become(0, from), to);
                check.due("10: it stays LOST", x.of(0, 5), 1);
            }
        }
    }

    private static void asEachKind() {
        String[] under = {"0", "01", "02", "013", "024", "0135"};
        for (int kind = 0; kind < 6; kind++) {
            for (int head : new int[] {0, 47}) {
                PeasDrum x = new PeasDrum();
                x.gallery(kind, 0, head, 0);
                for (int as = 0; as < 6; as++) {
                    boolean is = under[kind].indexOf('0' + as) >= 0;
                    check.due("11: " + kind + " as " + as, x.as(0, as), is ? head : Check.KIND);
                }
                x.become(0, 5);
                check.due("11: by what it became", x.as(0, 3), head);
            }
        }
    }

    private static void doesInWater() {
        PeasDrum x = new PeasDrum();
        for (int kind = 0; kind < 6; kind++) {
            x.gallery(kind, kind % 2, 0, 0);
        }
        for (int cell : new int[] {0, 47}) {
            x.ground(cell, 3);
            x.wall(cell, true);
            for (int kind = 0; kind < 6; kind++) {
                check.due("12: TIME for WATER", x.does(kind, cell, 0), Check.NONE);
                check.due("12: LOUD in WATER, 0 at least", x.does(kind, cell, 1), 0);
                check.due("12: FIRM in WATER", x.does(kind, cell, 2), 1);
            }
        }
        check.due("12: status(3)", x.status(3), 12);
    }

    private static void lostByNights() {
        PeasDrum x = new PeasDrum();
        check.due("13: none there, nights(1)", x.nights(1), 0);
        check.due("13: none there, nights(60)", x.nights(60), 0);
        Check.siege(x, "water 7 23 39;sap theirs at 0 way 1;propped ours at 16 way 1;mine theirs at 32 way 1");
        check.due("13: not by 6", x.nights(6), 0);
        check.due("13: one by 7", x.nights(1), 1);
        check.due("13: not by 12", x.nights(5), 0);
        check.due("13: two by 13", x.nights(1), 2);
        check.due("13: none is left", x.nights(60), 0);
        check.due("13: NIGHT", x.now(0), 61 + 13 + 60);
        PeasDrum y = new PeasDrum();
        Check.siege(y, "water 7 23 39;sap theirs at 0 way 1;propped ours at 16 way 1;mine theirs at 32 way 1");
        check.due("13: all of them together", y.nights(60), 3);
    }

    private static void allAreLost() {
        PeasDrum x = new PeasDrum();
        x.ground(21, 3);
        for (int i = 0; i < 10; i++) {
            x.gallery(i % 6, i < 5 ? 0 : 1, 20, 1);
        }
        check.due("14: theirs", x.now(1), 5);
        check.due("14: ours", x.now(2), 5);
        check.due("13: ten in a night", x.nights(1), 10);
        check.due("14: theirs", x.now(1), 0);
        check.due("14: ours", x.now(2), 0);
        check.due("14: none was MET", x.now(3), 0);
        check.due("14: NIGHT", x.now(0), 1);
    }

    private static void nowCounts() {
        for (int theirs = 0; theirs <= 10; theirs++) {
            PeasDrum x = new PeasDrum();
            for (int i = 0; i < 10; i++) {
                x.gallery(0, i < theirs ? 0 : 1, i < theirs ? 0 : 47, 1);
            }
            check.due("14: theirs", x.now(1), theirs);
            check.due("14: ours", x.now(2), 10 - theirs);
            x.blow(0, 1);
            check.due("14: theirs, blown up", x.now(1), 0);
            check.due("14: ours", x.now(2), 10 - theirs);
            x.blow(47, 1);
            check.due("14: ours, blown up", x.now(2), 0);
            check.due("14: blown up is not MET", x.now(3), 0);
        }
    }

    /** An object is used for 512 calls: the last one still answers as it must. */
    private static void lastCalls() {
        PeasDrum x = new PeasDrum();
        for (int i = 1; i < 512; i++) {
            check.due("2: ground(-1, 0)", x.ground(-1, 0), Check.BEYOND);
        }
        check.due("46: the 512th call", x.status(-1), 511);
    }
}
