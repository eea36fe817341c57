/** Promises 36 to 41 at their edges. */
public final class SheetEdgeTest {
    private static final Check check = new Check();

    public static void main(String[] args) {
        sheetOfEachSize();
        sheetAnew();
        sheetsStandAlone();
        writeLowestBits();
        writeOfFindings();
        copyWhole();
        copyOverItself();
        copyNone();
        laysFromEachCell();
        laysOnlyStuff();
        laysNone();
        bookOfNoneAndNine();
        bookCutsToItsBits();
        readOfNone();
        readOfAsManyAsBothHave();
        readEachNight();
        readAsLateAsCanBe();
        readHoldsNumbersAsTheyAre();
        check.end();
    }

    private static PeasDrum told(String text) {
        PeasDrum x = new PeasDrum();
        check.isTrue("'" + text + "' is right", Check.siege(x, text) > 0);
        return x;
    }

    private static void sheetOfEachSize() {
        for (int bits : new int[] {8, 16, 64}) {
            for (int n = 0; n <= 40; n++) {
                PeasDrum x = new PeasDrum();
                check.due("36: sheet(2, " + bits + ", " + n + ")", x.sheet(2, bits, n), n);
                for (int i = 0; i < n; i++) {
                    check.due("36: all 0", x.write(2, i, i + 1), 0);
                }
                check.due("37: no such number", x.write(2, n, 1), Check.BEYOND);
                check.due("37: no such number", x.write(2, -1, 1), Check.BEYOND);
                for (int i = 0; i < n; i++) {
                    check.due("37: each for itself", x.write(2, i, 0), i + 1);
                }
            }
        }
        for (int n : new int[] {0, 1, 40}) {
            PeasDrum x = new PeasDrum();
            check.due("36: bits 0 of one that is MISSING", x.sheet(0, 0, n), 0);
            check.due("36: it is MISSING", x.write(0, 0, 0), Check.MISSING);
            x.sheet(0, 8, 40);
            check.due("36: bits 0", x.sheet(0, 0, n), 0);
            check.due("36: it is MISSING", x.write(0, 0, 0), Check.MISSING);
        }
    }

    private static void sheetAnew() {
        PeasDrum x = new PeasDrum();
        x.sheet(0, 64, 40);
        for (int i = 0; i < 40; i++) {
            x.write(0, i, -1);
        }
        x.sheet(0, 8, 3);
        check.due("36: no such number any more", x.write(0, 3, 0), Check.BEYOND);
        x.sheet(0, 16, 40);
        for (int i = 0; i < 40; i++) {
            check.due("36: all 0 anew", x.write(0, i, i), 0);
        }
        x.sheet(0, 0, 0);
        x.sheet(0, 16, 40);
        for (int i = 0; i < 40; i++) {
            check.due("36: all 0 behind MISSING", x.write(0, i, 0), 0);
        }
    }

    private static void sheetsStandAlone() {
        PeasDrum x = new PeasDrum();
        for (int s = 0; s < 4; s++) {
            check.due("36: MISSING at first", x.write(s, 0, 0), Check.MISSING);
            x.sheet(s, 8, 2);
            x.write(s, 0, s + 1);
        }
        x.sheet(1, 0, 0);
        x.sheet(2, 64, 5);
        check.due("36: the first stays", x.write(0, 0, 0), 1);
        check.due("36: the second is MISSING", x.write(1, 0, 0), Check.MISSING);
        check.due("36: the third is new", x.write(2, 0, 0), 0);
        check.due("36: the last stays", x.write(3, 0, 0), 4);
    }

    private static void kept(int bits, long v, long due) {
        PeasDrum x = new PeasDrum();
        x.sheet(3, bits, 3);
        check.due("37: what it was", x.write(3, 1, v), 0);
        check.due("37: " + v + " in " + bits + " bits", x.write(3, 1, 0), due);
        check.due("37: those beside it", x.write(3, 0, 0) + x.write(3, 2, 0), 0);
    }

    private static void writeLowestBits() {
        long[] numbers = {0, 1, -1, 127, 128, -128, -129, 255, 256, 32767, 32768, -32768, -32769, 65535, 65536,
            Integer.MAX_VALUE, Integer.MIN_VALUE, 1L << 31, 1L << 32, Long.MAX_VALUE, Long.MIN_VALUE};
        for (long v : numbers) {
            kept(8, v, (byte) v);
            kept(16, v, (short) v);
            kept(64, v, v);
        }
    }

    /** A number that looks like a finding is none. */
    private static void writeOfFindings() {
        PeasDrum x = new PeasDrum();
        x.sheet(0, 64, 1);
        for (int finding = Check.SIZE; finding <= Check.BEYOND; finding++) {
            x.write(0, 0, finding);
            check.due("37: what it was", x.write(0, 0, 0), finding);
        }
        check.due("46: no findings", x.status(-1), 0);
    }

    /** Numbers 1, 2, .. of a sheet. */
    private static void number(PeasDrum x, int s, int n) {
        for (int i = 0; i < n; i++) {
            x.write(s, i, i + 1);
        }
    }

    private static void copyWhole() {
        for (int bits : new int[] {8, 16, 64}) {
            PeasDrum x = new PeasDrum();
            x.sheet(0, bits, 40);
            x.sheet(3, bits, 40);
            number(x, 0, 40);
            x.write(0, 39, -7);
            check.due("38: all forty", x.copy(0, 0, 3, 0, 40), 40);
            for (int i = 0; i < 39; i++) {
                check.due("38: number " + i, x.write(3, i, 0), i + 1);
            }
            check.due("38: the last", x.write(3, 39, 0), -7);
            check.due("38: from it nothing is taken", x.write(0, 38, 0), 39);
            check.due("38: one too many", x.copy(0, 0, 3, 0, 41), Check.BEYOND);
            check.due("38: the last to the first", x.copy(0, 39, 3, 0, 1), 1);
            check.due("38: the last to the first", x.write(3, 0, 0), -7);
            check.due("38: the first to the last", x.copy(0, 0, 3, 39, 1), 1);
            check.due("38: the first to the last", x.write(3, 39, 0), 1);
        }
    }

    private static void copyOverItself() {
        for (int from = 0; from <= 10; from++) {
            for (int to = 0; to <= 10; to++) {
                int n = 10 - Math.max(from, to);
                PeasDrum x = new PeasDrum();
                x.sheet(0, 16, 10);
                number(x, 0, 10);
                String call = "38: copy(0, " + from + ", 0, " + to + ", " + n + ")";
                check.due(call, x.copy(0, from, 0, to, n), n);
                for (int i = 0; i < 10; i++) {
                    boolean came = i >= to && i < to + n;
                    check.due(call + ", number " + i, x.write(0, i, 0), came ? from + i - to + 1 : i + 1);
                }
                check.due(call + ", one more", x.copy(0, from, 0, to, n + 1), Check.BEYOND);
            }
        }
    }

    private static void copyNone() {
        PeasDrum x = new PeasDrum();
        x.sheet(0, 8, 0);
        x.sheet(1, 8, 0);
        x.sheet(2, 8, 3);
        check.due("38: none of none", x.copy(0, 0, 1, 0, 0), 0);
        check.due("38: none of none to itself", x.copy(0, 0, 0, 0, 0), 0);
        check.due("38: one of none", x.copy(0, 0, 2, 0, 1), Check.BEYOND);
        check.due("38: one to none", x.copy(2, 0, 0, 0, 1), Check.BEYOND);
        check.due("38: none from the end", x.copy(2, 3, 0, 0, 0), 0);
        check.due("38: none to the end", x.copy(0, 0, 2, 3, 0), 0);
        check.due("38: none from behind the end", x.copy(2, 4, 0, 0, 0), Check.BEYOND);
        check.due("38: none to behind the end", x.copy(0, 0, 2, 4, 0), Check.BEYOND);
    }

    private static void laysFromEachCell() {
        for (int size : new int[] {1, 8, 40}) {
            for (int cell = 0; cell < 48; cell++) {
                PeasDrum x = new PeasDrum();
                x.sheet(0, 8, size);
                for (int i = 0; i < size; i++) {
                    x.write(0, i, 1 + i % 3);
                }
                int came = Math.min(size, 48 - cell);
                check.due("39: " + size + " from " + cell, x.lays(0, cell), came);
                for (int c = 0; c < 48; c++) {
                    boolean is = c >= cell && c < cell + came;
                    check.due("39: STUFF of " + c, x.cellOf(c, 0), is ? 1 + (c - cell) % 3 : 0);
                }
            }
        }
    }

    private static void laysOnlyStuff() {
        long[] leftOut = {-1, 4, 5, 127, -128, 255, 256, 259, 65536, 1L << 32, (1L << 32) + 2, Long.MIN_VALUE,
            Long.MAX_VALUE, -4, -3};
        for (long v : leftOut) {
            PeasDrum x = told("rock 20 21 22");
            x.sheet(0, 64, 3);
            x.write(0, 0, 3);
            x.write(0, 1, v);
            x.write(0, 2, 0);
            check.due("39: " + v + " is left out", x.lays(0, 20), 2);
            check.due("39: " + v + " is left out", x.cellOf(21, 0), 2);
            check.due("39: those beside it come", 10 * x.cellOf(20, 0) + x.cellOf(22, 0), 30);
        }
        for (int v = 0; v < 4; v++) {
            PeasDrum x = told("rock 47");
            x.sheet(0, 16, 1);
            x.write(0, 0, v);
            check.due("39: " + v + " comes", x.lays(0, 47), 1);
            check.due("39: " + v + " comes", x.cellOf(47, 0), v);
        }
        PeasDrum y = new PeasDrum();
        y.sheet(0, 8, 1);
        y.write(0, 0, 256 + 3);
        check.due("39: by its lowest bits", y.lays(0, 0), 1);
        check.due("39: by its lowest bits", y.cellOf(0, 0), 3);
    }

    private static void laysNone() {
        PeasDrum x = told("rock 0 to 47;wall 3;sap theirs at 5 way 0");
        x.sheet(0, 8, 0);
        check.due("39: no numbers", x.lays(0, 0), 0);
        x.sheet(1, 8, 40);
        for (int i = 0; i < 40; i++) {
            x.write(1, i, 4);
        }
        check.due("39: none that is STUFF", x.lays(1, 0), 0);
        check.due("39: nothing changes", x.cellOf(0, 0) + x.cellOf(39, 0), 4);
        x.sheet(1, 8, 40);
        check.due("39: forty", x.lays(1, 8), 40);
        check.due("39: thirty-nine", x.lays(1, 9), 39);
        check.due("39: WALL stays", x.walls(), 8);
        check.due("39: HEAD stays", x.cellOf(5, 2), 1);
        check.due("39: numbers stay", x.write(1, 0, 0), 0);
    }

    private static void bookOfNoneAndNine() {
        PeasDrum x = told("gallery theirs at 0 way 0");
        x.sheet(0, 16, 40);
        x.sheet(1, 16, 0);
        for (int i = 0; i < 40; i++) {
            x.write(0, i, 77);
        }
        check.due("40: no DISH", x.book(0), 0);
        check.due("40: no DISH, no number", x.book(1), 0);
        check.due("40: nothing changes", x.write(0, 0, 77), 77);
        for (int d = 0; d < 9; d++) {
            x.dish(d);
        }
        check.due("40: no number", x.book(1), 0);
        check.due("40: nine", x.book(0), 9);
        for (int i = 0; i < 40; i++) {
            check.due("40: number " + i, x.write(0, i, 0), i == 8 ? 6 : i < 8 ? 12 / (1 + i) : 77);
        }
        for (int n = 1; n <= 9; n++) {
            x.sheet(2, 64, n);
            check.due("40: as far as it has numbers", x.book(2), n);
            check.due("40: the last", x.write(2, n - 1, 0), n == 9 ? 6 : 12 / n);
        }
    }

    private static void bookCutsToItsBits() {
        for (int peas : new int[] {127, 128, 255, 256, 300}) {
            for (int bits : new int[] {8, 16, 64}) {
                PeasDrum x = hears(peas);
                x.sheet(0, bits, 1);
                check.due("40: book of " + peas, x.book(0), 1);
                check.due("40: " + peas + " in " + bits + " bits", x.write(0, 0, 0), bits == 8 ? (byte) peas : peas);
            }
        }
    }

    /** A DISH whose PEAS are that many. */
    private static PeasDrum hears(int peas) {
        PeasDrum x;
        switch (peas) {
            case 127:
                x = heard(4, 0, 21, 2, 23);
                break;
            case 128:
                x = heard(4, 0, 21, 3, 21);
                break;
            case 255:
                x = heard(8, 2, 20, 1, 21);
                break;
            case 256:
                x = heard(7, 0, 20, 0, 20, 0, 21);
                break;
            default:
                x = heard(10);
        }
        check.due("23: PEAS", x.peas(0), peas);
        return x;
    }

    /** FEINTS of 30 each at the DISH in ROCK, and others by KIND and CELL. */
    private static PeasDrum heard(int feints, int... others) {
        PeasDrum x = told("rock 20;dish 20");
        for (int i = 0; i < feints; i++) {
            x.gallery(4, 0, 20, 0);
        }
        for (int i = 0; i < others.length; i += 2) {
            x.gallery(others[i], 0, others[i + 1], 0);
        }
        return x;
    }

    private static void readOfNone() {
        PeasDrum x = told("gallery theirs at 0 way 1");
        x.sheet(0, 8, 5);
        x.write(0, 0, 99);
        check.due("41: no DISH, all is as it is", x.read(0), 0);
        x.dish(0);
        check.due("41: a DISH", x.read(0), Check.NONE);
        x.sheet(0, 8, 0);
        check.due("41: no number, all is as it is", x.read(0), 0);
    }

    private static void readOfAsManyAsBothHave() {
        PeasDrum x = told("gallery theirs at 0 way 0");
        for (int d = 0; d < 9; d++) {
            x.dish(d);
        }
        for (int n = 1; n <= 40; n += 3) {
            x.sheet(0, 16, n);
            x.book(0);
            check.due("41: " + n + " numbers, as they are", x.read(0), 0);
            int last = Math.min(n, 9) - 1;
            long was = x.write(0, last, 99);
            check.due("41: the last is another", x.read(0), Check.NONE);
            x.write(0, last, was);
            if (n > 9) {
                x.write(0, 9, 99);
                check.due("41: behind the DISHES it is nothing", x.read(0), 0);
            }
        }
    }

    /** It comes to the DISH by a CELL a night, and rests there. */
    private static void readEachNight() {
        PeasDrum x = told("feint theirs at 0 way 1;dish 7");
        x.sheet(0, 8, 1);
        int[] peas = {18 / 8, 18 / 7, 18 / 6, 18 / 5, 18 / 4, 18 / 3, 18 / 2, 18};
        int[] due = {0, 0, 2, 2, 4, 5, 6, 7};
        for (int night = 0; night < 8; night++) {
            x.write(0, 0, peas[night]);
            check.due("41: first night of " + peas[night], x.read(0), due[night]);
        }
        x.write(0, 0, 17);
        check.due("41: 17 never", x.read(0), Check.NONE);
        x.write(0, 0, 0);
        check.due("41: 0 never", x.read(0), Check.NONE);
        check.due("41: nothing changes", x.of(0, 2) + x.now(0), 0);
        check.due("41: the sheet stays", x.write(0, 0, 5), 0);
    }

    private static void readAsLateAsCanBe() {
        PeasDrum x = told("rock 0 to 47;wall 0 to 47;mine theirs at 0 way 1;dish 7");
        x.sheet(0, 8, 1);
        x.write(0, 0, 9);
        check.due("41: in 42", x.read(0), 42);
        x.nights(41);
        check.due("41: in 1", x.read(0), 1);
        x.nights(1);
        check.due("41: now", x.read(0), 0);
        x.write(0, 0, 0);
        check.due("41: never more", x.read(0), Check.NONE);
        Check.siege(x, "mine ours at 15 way 1");
        check.due("41: MET, all is still", x.read(0), 1);
    }

    /** A number of 8 bits is not above 127, so that more PEAS are never as it is. */
    private static void readHoldsNumbersAsTheyAre() {
        for (int peas : new int[] {127, 128, 255, 256, 300}) {
            PeasDrum x = hears(peas);
            for (int bits : new int[] {8, 16, 64}) {
                x.sheet(0, bits, 1);
                x.book(0);
                boolean now = peas <= 127 || bits > 8;
                check.isTrue("41: " + peas + " by " + bits + " bits", x.read(0) == 0 == now);
            }
            x.write(0, 0, peas + (1L << 32));
            check.due("41: all 64 bits count", x.read(0), Check.NONE);
            x.write(0, 0, -peas);
            check.due("41: the sign counts", x.read(0), Check.NONE);
        }
    }
}
