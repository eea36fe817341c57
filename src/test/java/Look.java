/** All that can be seen of an object, told as a text. */
final class Look {
    private Look() {
    }

    /** What an image keeps: ground, wall, galleries, dishes, nights, bread. The object stays as it is. */
    static String atCamp(PeasDrum x) {
        StringBuilder told = new StringBuilder("walls ").append(x.walls()).append(" stuff ");
        for (int cell = 0; cell < 48; cell++) {
            told.append(x.cellOf(cell, 0));
        }
        int galleries = x.count(0);
        for (int g = 0; g < galleries; g++) {
            told.append(" gallery");
            for (int what = 0; what < 6; what++) {
                told.append(' ').append(x.of(g, what));
            }
        }
        for (int what = 0; what < 4; what++) {
            told.append(" now ").append(x.now(what));
        }
        for (int what = 4; what < 7; what++) {
            told.append(" bread ").append(x.count(what));
        }
        return told.append(dishes(x)).toString();
    }

    /** The camp, THE TAPE, the sheets and the image; the object is spent by this. */
    static String atAll(PeasDrum x) {
        StringBuilder told = new StringBuilder(atCamp(x));
        told.append(" tape ").append(x.count(3));
        for (int s = 0; s < 4; s++) {
            told.append(sheet(x, s));
        }
        // What bytes THE TAPE has is told by what they become as a text.
        x.feed(' ' << 8 | '7', 2);
        told.append(" text ").append(x.siege()).append(dishes(x));
        told.append(" undo ").append(x.undo());
        return told.append(' ').append(atCamp(x)).toString();
    }

    private static String dishes(PeasDrum x) {
        StringBuilder told = new StringBuilder();
        int dishes = x.count(1);
        for (int d = 0; d < dishes; d++) {
            int cell = x.move(d, 0);
            x.move(d, cell);
            told.append(" dish ").append(cell);
        }
        return told.toString();
    }

    /** Numbers, and by the first of them how many bits they have. */
    private static String sheet(PeasDrum x, int s) {
        StringBuilder told = new StringBuilder(" sheet");
        long number = x.write(s, 0, 0x123456789aL);
        for (int i = 1; i <= 40 && number > Check.BEYOND; i++) {
            told.append(' ').append(number);
            number = x.write(s, i, 0);
        }
        return told.append(" ends ").append(number).append(' ').append(x.write(s, 0, 0)).toString();
    }
}
