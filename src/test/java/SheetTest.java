/** Promises 36 to 41: sheet, write, copy, lays, book, read. */
public final class SheetTest {
    private static final Check check = new Check();

    public static void main(String[] args) {
        sheet();
        write();
        copy();
        copyBounds();
        lays();
        book();
        read();
        check.end();
    }

    private static void sheet() {
        PeasDrum x = new PeasDrum();
        check.due("36: sheet(0, 8, 40)", x.sheet(0, 8, 40), 40);
        check.due("36: sheet(3, 64, 0)", x.sheet(3, 64, 0), 0);
        check.due("36: sheet(1, 16, 1)", x.sheet(1, 16, 1), 1);
        check.due("36: sheet(-1, 8, 1)", x.sheet(-1, 8, 1), Check.BEYOND);
        check.due("36: sheet(4, 8, 1)", x.sheet(4, 8, 1), Check.BEYOND);
        int[] wrongBits = {-8, -1, 1, 7, 9, 32, 63, 65, 128};
        for (int bits : wrongBits) {
            check.due("36: sheet(0, " + bits + ", -1)", x.sheet(0, bits, -1), Check.BEYOND);
        }
        check.due("36: sheet(4, 8, -1)", x.sheet(4, 8, -1), Check.BEYOND);
        check.due("36: sheet(0, 8, -1)", x.sheet(0, 8, -1), Check.SIZE);
        check.due("36: sheet(0, 0, -1)", x.sheet(0, 0, -1), Check.SIZE);
        check.due("36: sheet(0, 8, 41)", x.sheet(0, 8, 41), Check.BEYOND);
        check.due("36: sheet(0, 0, 41)", x.sheet(0, 0, 41), Check.BEYOND);
        check.due("36: status(6)", x.status(6), 2);
        check.due("36: it still stands", x.write(0, 39, 5), 0);
        check.due("36: anew, all 0", x.sheet(0, 8, 40), 40);
        check.due("36: all 0", x.write(0, 39, 5), 0);
        check.due("36: sheet(0, 0, 40)", x.sheet(0, 0, 40), 0);
        check.due("36: it is MISSING", x.write(0, 0, 5), Check.MISSING);
        check.due("36: the others stand", x.write(1, 0, 5), 0);
    }

    private static void write() {
        PeasDrum x = new PeasDrum();
        check.due("37: write(4, 0, 0)", x.write(4, 0, 0), Check.BEYOND);
        check.due("37: write(-1, 0, 0)", x.write(-1, 0, 0), Check.BEYOND);
        check.due("37: MISSING ahead of BEYOND", x.write(0, -1, 0), Check.MISSING);
        x.sheet(0, 8, 2);
        x.sheet(1, 16, 2);
        x.sheet(2, 64, 2);
        check.due("37: write(0, 2, 0)", x.write(0, 2, 0), Check.BEYOND);
        check.due("37: write(0, -1, 0)", x.write(0, -1, 0), Check.BEYOND);
        kept(x, 0, 127, 127);
        kept(x, 0, 128, -128);
        kept(x, 0, -1, -1);
        kept(x, 0, 256 + 3, 3);
        kept(x, 1, 32767, 32767);
        kept(x, 1, 32768, -32768);
        kept(x, 1, 65536 * 7L + 200, 200);
        kept(x, 1, Long.MIN_VALUE, 0);
        kept(x, 2, Long.MIN_VALUE, Long.MIN_VALUE);
        kept(x, 2, Long.MAX_VALUE, Long.MAX_VALUE);
        kept(x, 2, Check.BEYOND, Check.BEYOND);
        check.due("37: a number is no finding", x.status(0), 4);
        check.due("37: its neighbour is 0", x.write(0, 1, 0), 0);
    }

    private static void kept(PeasDrum x, int s, long v, long due) {
        x.write(s, 0, v);
        check.due("37: write(" + s + ", 0, " + v + ")", x.write(s, 0, 0), due);
    }

    /** Numbers of a sheet must be these (they are all 0 then). */
    private static void numbers(PeasDrum x, String at, int s, long... due) {
        for (int i = 0; i < due.length; i++) {
            check.due(at + ", number " + i + " of " + s, x.write(s, i, 0), due[i]);
        }
    }

    private static void count(PeasDrum x, int s, int n) {
        for (int i = 0; i < n; i++) {
            x.write(s, i, i + 1);
        }
    }

    private static void copy() {
        PeasDrum x = new PeasDrum();
        x.sheet(0, 16, 5);
        x.sheet(1, 16, 3);
        count(x, 0, 5);
        check.due("38: copy(0, 2, 1, 0, 3)", x.copy(0, 2, 1, 0, 3), 3);
        numbers(x, "38: to another", 1, 3, 4, 5);
        check.due("38: copy(0, 0, 0, 1, 4)", x.copy(0, 0, 0, 1, 4), 4);
        numbers(x, "38: up, as they were", 0, 1, 1, 2, 3, 4);
        count(x, 0, 5);
        check.due("38: copy(0, 1, 0, 0, 4)", x.copy(0, 1, 0, 0, 4), 4);
        numbers(x, "38: down, as they were", 0, 2, 3, 4, 5, 5);
        count(x, 1, 3);
        check.due("38: copy(1, 2, 0, 4, 1)", x.copy(1, 2, 0, 4, 1), 1);
        numbers(x, "38: one to the end", 0, 0, 0, 0, 0, 3);
        check.due("38: none, from the end", x.copy(0, 5, 1, 3, 0), 0);
        numbers(x, "38: none", 1, 1, 2, 3);
    }

    private static void copyBounds() {
        PeasDrum x = new PeasDrum();
        int most = Integer.MAX_VALUE;
        x.sheet(0, 16, 5);
        x.sheet(1, 16, 3);
        x.sheet(2, 8, 3);
        check.due("38: copy(4, ..)", x.copy(4, 0, 3, 0, 1), Check.BEYOND);
        check.due("38: copy(.., 4, ..)", x.copy(3, 0, 4, 0, 1), Check.BEYOND);
        check.due("38: copy(-1, ..)", x.copy(-1, 0, 0, 0, 1), Check.BEYOND);
        check.due("38: copy(.., -1, ..)", x.copy(0, 0, -1, 0, 1), Check.BEYOND);
        check.due("38: MISSING", x.copy(3, 0, 0, 0, -1), Check.MISSING);
        check.due("38: MISSING", x.copy(0, 0, 3, 0, -1), Check.MISSING);
        check.due("38: KIND", x.copy(0, 0, 2, 0, -1), Check.KIND);
        check.due("38: from below 0", x.copy(0, -1, 1, 0, 1), Check.BEYOND);
        check.due("38: to below 0", x.copy(0, 0, 1, -1, 1), Check.BEYOND);
        check.due("38: n below 0", x.copy(0, 0, 1, 0, -1), Check.BEYOND);
        check.due("38: from has not so many", x.copy(1, 1, 0, 0, 3), Check.BEYOND);
        check.due("38: to has not so many", x.copy(0, 0, 1, 1, 3), Check.BEYOND);
        check.due("38: none, behind the end", x.copy(0, 6, 1, 0, 0), Check.BEYOND);
        check.due("38: none, to behind the end", x.copy(0, 0, 1, 4, 0), Check.BEYOND);
        check.due("38: sums that wrap", x.copy(0, most, 1, 0, 1), Check.BEYOND);
        check.due("38: sums that wrap", x.copy(0, 1, 1, 0, most), Check.BEYOND);
        check.due("38: sums that wrap", x.copy(0, most, 0, most, most), Check.BEYOND);
        check.due("38: status(0)", x.status(0), 14);
        check.due("38: status(2)", x.status(2), 1);
        check.due("38: status(5)", x.status(5), 2);
    }

    private static void lays() {
        PeasDrum x = new PeasDrum();
        check.due("39: lays(4, 0)", x.lays(4, 0), Check.BEYOND);
        check.due("39: lays(-1, 0)", x.lays(-1, 0), Check.BEYOND);
        check.due("39: MISSING ahead of BEYOND", x.lays(0, 48), Check.MISSING);
        x.sheet(0, 64, 6);
        check.due("39: lays(0, 48)", x.lays(0, 48), Check.BEYOND);
        check.due("39: lays(0, -1)", x.lays(0, -1), Check.BEYOND);
        long[] numbers = {1, 4, -1, (1L << 32) + 2, 3, 2};
        for (int i = 0; i < numbers.length; i++) {
            x.write(0, i, numbers[i]);
            x.ground(10 + i, 2);
        }
        check.due("39: lays(0, 10)", x.lays(0, 10), 3);
        int[] due = {1, 2, 2, 2, 3, 2};
        for (int i = 0; i < due.length; i++) {
            check.due("39: STUFF of " + (10 + i), x.cellOf(10 + i, 0), due[i]);
        }
        check.due("39: behind 47", x.lays(0, 43), 2);
        check.due("39: STUFF of 47", x.cellOf(47, 0), 3);
        check.due("39: STUFF of 43", x.cellOf(43, 0), 1);
        x.sheet(1, 8, 0);
        check.due("39: none", x.lays(1, 0), 0);
        x.sheet(2, 8, 40);
        check.due("39: noughts are CLAY", x.lays(2, 10), 38);
        check.due("39: noughts are CLAY", x.cellOf(14, 0) + x.cellOf(47, 0), 0);
        soundBehindLays(x);
    }

    private static void soundBehindLays(PeasDrum x) {
        check.due("39: far ahead", x.far(0, 1), 1);
        x.write(0, 0, 3);
        x.lays(0, 1);
        check.due("39: far behind", x.far(0, 1), 4);
    }

    private static void book() {
        PeasDrum x = new PeasDrum();
        check.due("40: book(4)", x.book(4), Check.BEYOND);
        check.due("40: book(-1)", x.book(-1), Check.BEYOND);
        check.due("40: MISSING", x.book(0), Check.MISSING);
        x.sheet(0, 8, 3);
        x.write(0, 1, 77);
        check.due("40: no DISH", x.book(0), 0);
        x.dish(0);
        x.gallery(0, 0, 1, 0);
        check.due("40: one DISH", x.book(0), 1);
        check.due("40: behind it all stays", x.write(0, 1, 0), 77);
        x.dish(1);
        x.dish(3);
        x.dish(4);
        check.due("40: as far as it has numbers", x.book(0), 3);
        numbers(x, "40: PEAS", 0, 6, 12, 4);
        x.ground(1, 2);
        for (int i = 0; i < 9; i++) {
            x.gallery(4, 0, 1, 0);
        }
        check.due("40: PEAS", x.peas(1), 290);
        x.book(0);
        check.due("40: their lowest bits", x.write(0, 1, 0), 290 - 256);
        x.sheet(1, 16, 9);
        check.due("40: book(1)", x.book(1), 4);
        numbers(x, "40: 16 bits", 1, 145, 290, 96, 68, 0);
    }

    private static void read() {
        PeasDrum x = new PeasDrum();
        check.due("41: read(4)", x.read(4), Check.BEYOND);
        check.due("41: read(-1)", x.read(-1), Check.BEYOND);
        check.due("41: MISSING", x.read(0), Check.MISSING);
        x.sheet(0, 64, 2);
        x.sheet(1, 16, 1);
        x.write(0, 0, 12);
        x.write(0, 1, 2);
        check.due("41: no DISH, all is as it is", x.read(0), 0);
        x.dish(5);
        x.dish(9);
        x.gallery(0, 0, 0, 1);
        check.due("41: it comes to 5", x.read(0), 5);
        check.due("41: nothing changes", x.now(0) + x.of(0, 2), 0);
        x.write(0, 0, 2);
        x.write(0, 1, 4);
        check.due("41: now", x.read(0), 0);
        x.write(0, 0, (1L << 32) + 2);
        check.due("41: never so", x.read(0), Check.NONE);
        x.write(0, 0, 3);
        x.write(0, 1, 4);
        check.due("41: first of two", x.read(0), 2);
        check.due("41: what is never, is not", x.read(1), Check.NONE);
        x.ground(3, 3);
        check.due("41: LOST, all is still", x.read(1), 3);
        slowRead();
    }

    private static void slowRead() {
        PeasDrum x = new PeasDrum();
        for (int row = 0; row < 6; row++) {
            x.ground(8 * row + 1, 2);
            x.ground(8 * row + 1, 2);
        }
        x.dish(0);
        x.gallery(1, 1, 1, 2);
        x.gallery(1, 0, 47, 0);
        x.sheet(0, 8, 1);
        x.write(0, 0, 1);
        check.due("41: it rests far off", x.read(0), 6);
        x.turn(1, 1);
        check.due("41: it stays far off", x.read(0), Check.NONE);
        x.image();
        Check.waitUntil(x, 939);
        check.due("41: at 939", x.read(0), Check.NONE);
        x.nights(1);
        check.due("41: at 940", x.read(0), Check.STATE);
        x.sheet(0, 0, 0);
        check.due("41: MISSING ahead of STATE", x.read(0), Check.MISSING);
    }
}
