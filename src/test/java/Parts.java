import java.util.Map;
import java.util.TreeMap;
import java.util.TreeSet;

/** All that can be seen of an object, each part by its own name, so that one can tell which differ. */
final class Parts {
    private static final String[] OF_GALLERY = {"kind", "side", "head", "way", "done", "lost"};

    private final Map<String, Long> told = new TreeMap<>();

    /** The object is spent by this. */
    Parts(PeasDrum x) {
        for (int which = 0; which < 7; which++) {
            told.put("status " + which, (long) x.status(which));
        }
        camp(x, "");
        told.put("tape", (long) x.count(3));
        for (int s = 0; s < 4; s++) {
            sheet(x, s);
        }
        // What bytes THE TAPE has is told by what they become as a text.
        told.put("text", (long) x.siege());
        boolean keeps = x.undo() > Check.BEYOND;
        told.put("keeps", keeps ? 1L : 0L);
        if (keeps) {
            camp(x, "kept ");
        }
    }

    private void camp(PeasDrum x, String whose) {
        long walls = x.walls();
        for (int cell = 0; cell < 48; cell++) {
            told.put(whose + "stuff " + cell, (long) x.cellOf(cell, 0));
            told.put(whose + "wall " + cell, walls >>> cell & 1);
        }
        int galleries = x.count(0);
        for (int g = 0; g < galleries; g++) {
            for (int what = 0; what < 6; what++) {
                told.put(whose + "gallery " + g + " " + OF_GALLERY[what], (long) x.of(g, what));
            }
        }
        int dishes = x.count(1);
        for (int d = 0; d < dishes; d++) {
            int cell = x.move(d, 0);
            x.move(d, cell);
            told.put(whose + "dish " + d, (long) cell);
        }
        told.put(whose + "night", (long) x.now(0));
        told.put(whose + "met", (long) x.now(3));
        told.put(whose + "ounces", (long) x.count(4));
        told.put(whose + "mouths", (long) x.count(5));
        told.put(whose + "ration", (long) x.count(6));
    }

    private void sheet(PeasDrum x, int s) {
        long number = x.write(s, 0, 0x123456789aL);
        for (int i = 1; i <= 40 && number > Check.BEYOND; i++) {
            told.put("sheet " + s + " number " + (i - 1), number);
            number = x.write(s, i, 0);
        }
        told.put("sheet " + s + " end", number);
        told.put("sheet " + s + " bits", x.write(s, 0, 0));
    }

    /** The names of those parts that differ, or that only one of both has. */
    TreeSet<String> differing(Parts other) {
        TreeSet<String> names = new TreeSet<>(told.keySet());
        names.addAll(other.told.keySet());
        names.removeIf(name -> told.containsKey(name) && told.get(name).equals(other.told.get(name)));
        return names;
    }
}
