import java.util.ArrayList;
import java.util.Arrays;
import java.util.List;
import java.util.TreeSet;
import java.util.regex.Matcher;
import java.util.regex.Pattern;

/**
 * The document once more, as slow and plain as can be, for ModelTest to hold the class against. It
 * shares no code with the class, and works by other means wherever there are any.
 */
final class PlainModel {
    /** What an act answers instead of going on. */
    private static final class Finding extends RuntimeException {
        private static final long serialVersionUID = 1;
        final int which;

        Finding(int which) {
            super(null, null, false, false);
            this.which = which;
        }
    }

    private static final class Fault extends RuntimeException {
        private static final long serialVersionUID = 1;
        final int place;

        Fault(int place) {
            super(null, null, false, false);
            this.place = place;
        }
    }

    /** A gallery: kind, side, head, way, done, lost; just as of() tells it. */
    private static final class World {
        int[] stuff = new int[48];
        TreeSet<Integer> wall = new TreeSet<>();
        List<int[]> galleries = new ArrayList<>();
        List<Integer> dishes = new ArrayList<>();
        int night = 0;
        int met = 0;
        int[] bread = {0, 10, 16};

        World twin() {
            World t = new World();
            t.stuff = stuff.clone();
            t.wall = new TreeSet<>(wall);
            for (int[] g : galleries) {
                t.galleries.add(g.clone());
            }
            t.dishes = new ArrayList<>(dishes);
            t.night = night;
            t.met = met;
            t.bread = bread.clone();
            return t;
        }
    }

    private static final int FOREVER = 1000000;
    private static final String[] KIND_NAMES = {"gallery", "propped", "sap", "mine", "feint", "deep"};
    private static final String[] STUFF_NAMES = {"clay", "sand", "rock", "water"};
    private static final int[] UNDER = {-1, 0, 0, 1, 2, 3};

    private World w = new World();
    private World kept = null;
    private final List<Integer> tape = new ArrayList<>();
    private final long[][] sheets = new long[4][];
    private final int[] bits = new int[4];
    private final int[] told = new int[7];

    /** An act's name and arguments: its answer. */
    long act(String name, Object[] a) {
        try {
            return answer(name, a);
        } catch (Finding f) {
            told[Check.BEYOND - f.which]++;
            return f.which;
        }
    }

    private static int n(Object[] a, int i) {
        return (Integer) a[i];
    }

    private static void need(boolean holds, int finding) {
        if (!holds) {
            throw new Finding(finding);
        }
    }

    private static void within(int v, int least, int most) {
        need(v >= least && v <= most, Check.BEYOND);
    }

    private static void cell(int c) {
        within(c, 0, 47);
    }

    private int[] galleryOf(int g) {
        within(g, 0, w.galleries.size() - 1);
        return w.galleries.get(g);
    }

    private long answer(String name, Object[] a) {
        switch (name) {
            case "ground": case "wall": case "cellOf": case "walls": case "far":
                return groundAct(name, a);
            case "gallery": case "of": case "turn": case "become": case "as": case "does":
            case "nights": case "now":
                return galleryAct(name, a);
            case "on": case "lost": case "first": case "comes": case "meets": case "whose":
                return onAct(name, a);
            case "dish": case "move": case "peas": case "hears": case "where": case "best":
                return dishAct(name, a);
            case "falls": case "blow": case "mine": case "bread": case "lasts": case "ration":
                return powderAct(name, a);
            case "feed": case "wipe": case "siege":
                return textAct(name, a);
            case "sheet": case "write": case "copy": case "lays": case "book": case "read":
                return sheetAct(name, a);
            default:
                return imageAct(name, a);
        }
    }

    private long groundAct(String name, Object[] a) {
        if (name.equals("walls")) {
            return setOf(w.wall);
        }
        int c = n(a, 0);
        cell(c);
        switch (name) {
            case "ground": {
                within(n(a, 1), 0, 3);
                int was = w.stuff[c];
                w.stuff[c] = n(a, 1);
                return was;
            }
            case "wall": {
                boolean is = (Boolean) a[1];
                return (is ? w.wall.add(c) : w.wall.remove(c)) ? 1 : 0;
            }
            case "cellOf": {
                within(n(a, 1), 0, 2);
                long heads = w.galleries.stream().filter(g -> g[5] == 0 && g[2] == c).count();
                return n(a, 1) == 0 ? w.stuff[c] : n(a, 1) == 1 ? (w.wall.contains(c) ? 1 : 0) : heads;
            }
            default:
                cell(n(a, 1));
                return farFrom(c)[n(a, 1)];
        }
    }

    private static long setOf(Iterable<Integer> cells) {
        long set = 0;
        for (int c : cells) {
            set += 1L << c;
        }
        return set;
    }

    private static List<Integer> beside(int c) {
        List<Integer> found = new ArrayList<>();
        for (int way = 0; way < 4; way++) {
            int b = ahead(c, way);
            if (b >= 0) {
                found.add(b);
            }
        }
        return found;
    }

    private static int ahead(int c, int way) {
        int row = c / 8 + (way == 0 ? -1 : way == 2 ? 1 : 0);
        int column = c % 8 + (way == 1 ? 1 : way == 3 ? -1 : 0);
        return row < 0 || row > 5 || column < 0 || column > 7 ? -1 : 8 * row + column;
    }

    /** Least sums from a cell by taking the nearest unsettled cell again and again. */
    private static int[] nearest(int from, int[] costs) {
        int[] sums = new int[48];
        boolean[] settled = new boolean[48];
        Arrays.fill(sums, FOREVER);
        sums[from] = 0;
        for (int i = 0; i < 48; i++) {
            int c = -1;
            for (int b = 0; b < 48; b++) {
                if (!settled[b] && (c < 0 || sums[b] < sums[c])) {
                    c = b;
                }
            }
            settled[c] = true;
            for (int b : beside(c)) {
                sums[b] = Math.min(sums[b], Math.min(FOREVER, sums[c] + costs[b]));
            }
        }
        return sums;
    }

    private int[] farFrom(int from) {
        int[] costs = new int[48];
        for (int c = 0; c < 48; c++) {
            costs[c] = new int[] {1, 2, 1, 4}[w.stuff[c]];
        }
        return nearest(from, costs);
    }

    private static int time(World at, int kind, int c) {
        int stuff = at.stuff[c];
        switch (kind) {
            case 0:
                return stuff == 0 ? 1 : stuff == 1 ? 2 : 4;
            case 1:
                return time(at, 0, c) + 1;
            case 2:
                return Math.max(1, time(at, 0, c) / 2);
            case 3:
                return time(at, 1, c) + (at.wall.contains(c) ? 1 : 0);
            case 4:
                return time(at, 2, c);
            default:
                return stuff == 2 ? 3 : time(at, 3, c);
        }
    }

    private int loud(int kind, int c) {
        switch (kind) {
            case 0:
                return new int[] {12, 8, 20, 0}[w.stuff[c]];
            case 1:
                return Math.max(0, loud(0, c) - 2);
            case 2:
                return loud(0, c) / 2;
            case 3:
                return loud(1, c) / 2;
            case 4:
                return 3 * loud(2, c);
            default:
                return loud(3, c);
        }
    }

    private static boolean firm(World at, int kind, int c) {
        return kind == 0 ? at.stuff[c] != 1 : kind == 1 || firm(at, UNDER[kind], c);
    }

    private long galleryAct(String name, Object[] a) {
        switch (name) {
            case "gallery":
                within(n(a, 0), 0, 5);
                within(n(a, 1), 0, 1);
                cell(n(a, 2));
                within(n(a, 3), 0, 3);
                need(w.galleries.size() < 10, Check.FULL);
                w.galleries.add(new int[] {n(a, 0), n(a, 1), n(a, 2), n(a, 3), 0, 0});
                return w.galleries.size() - 1;
            case "nights": {
                within(n(a, 0), 1, 60);
                need(w.night + n(a, 0) <= 999, Check.STATE);
                long before = left(0) + left(1);
                for (int i = 0; i < n(a, 0); i++) {
                    night(w);
                }
                return before - left(0) - left(1);
            }
            case "now":
                within(n(a, 0), 0, 3);
                return new long[] {w.night, left(0), left(1), w.met}[n(a, 0)];
            default:
                return oneGalleryAct(name, a, galleryOf(n(a, 0)));
        }
    }

    private long oneGalleryAct(String name, Object[] a, int[] g) {
        int v = n(a, 1);
        switch (name) {
            case "of":
                within(v, 0, 5);
                return g[v];
            case "turn": {
                within(v, 0, 3);
                need(g[5] == 0, Check.STATE);
                int was = g[3];
                g[4] = was == v ? g[4] : 0;
                g[3] = v;
                return was;
            }
            case "become": {
                within(v, 0, 5);
                int was = g[0];
                g[0] = v;
                return was;
            }
            case "as": {
                within(v, 0, 5);
                int k = g[0];
                while (k >= 0 && k != v) {
                    k = UNDER[k];
                }
                need(k == v, Check.KIND);
                return g[2];
            }
            default:
                cell(v);
                within(n(a, 2), 0, 2);
                need(n(a, 2) != 0 || w.stuff[v] != 3, Check.NONE);
                return n(a, 2) == 0 ? time(w, g[0], v) : n(a, 2) == 1 ? loud(g[0], v)
                        : firm(w, g[0], v) ? 1 : 0;
        }
    }

    private long left(int side) {
        return w.galleries.stream().filter(g -> g[1] == side && g[5] == 0).count();
    }

    private static void night(World at) {
        for (int[] g : at.galleries) {
            int c = ahead(g[2], g[3]);
            if (g[5] == 1 || c < 0) {
                continue;
            }
            if (at.stuff[c] == 3) {
                g[5] = 1;
                continue;
            }
            g[4]++;
            if (g[4] >= time(at, g[0], c)) {
                g[2] = c;
                g[4] = 0;
                g[5] = firm(at, g[0], c) ? 0 : 1;
            }
        }
        for (int[] t : at.galleries) {
            boolean isMet = at.galleries.stream().anyMatch(o -> o[1] == 1 && o[5] == 0
                    && (o[2] == t[2] || beside(t[2]).contains(o[2])));
            if (t[1] == 0 && t[5] == 0 && isMet) {
                t[5] = 1;
                at.met++;
            }
        }
        at.night++;
    }

    private static World on(World at, int n) {
        World t = at.twin();
        for (int i = 0; i < n; i++) {
            night(t);
        }
        return t;
    }

    private long onAct(String name, Object[] a) {
        switch (name) {
            case "on":
                galleryOf(n(a, 0));
                within(n(a, 1), 0, 99);
                need(w.night + n(a, 1) <= 999, Check.STATE);
                return on(w, n(a, 1)).galleries.get(n(a, 0))[2];
            case "lost": {
                need(galleryOf(n(a, 0))[5] == 0 && w.night <= 900, Check.STATE);
                for (int n = 1; n <= 99; n++) {
                    if (on(w, n).galleries.get(n(a, 0))[5] == 1) {
                        return n;
                    }
                }
                throw new Finding(Check.NONE);
            }
            case "first":
                return first();
            case "comes": {
                int[] g = galleryOf(n(a, 0));
                cell(n(a, 1));
                need(g[5] == 0 && g[1] == 1, Check.STATE);
                int sum = inTime(g)[n(a, 1)];
                need(sum < FOREVER, Check.NONE);
                return sum;
            }
            case "meets": {
                int[] o = galleryOf(n(a, 0));
                int[] t = galleryOf(n(a, 1));
                need(o[5] == 0 && t[5] == 0 && o[1] == 1 && t[1] == 0 && w.night <= 939, Check.STATE);
                int n = meeting(o, n(a, 1));
                need(n < FOREVER, Check.NONE);
                return n;
            }
            default:
                return whose(n(a, 0));
        }
    }

    private long first() {
        need(w.night <= 900, Check.STATE);
        for (int n = 0; n <= 99; n++) {
            World t = on(w, n);
            for (int i = 0; i < t.galleries.size(); i++) {
                if (t.galleries.get(i)[1] == 0 && t.wall.contains(t.galleries.get(i)[2])) {
                    return i;
                }
            }
        }
        throw new Finding(Check.NONE);
    }

    private int[] inTime(int[] g) {
        int[] costs = new int[48];
        for (int c = 0; c < 48; c++) {
            costs[c] = w.stuff[c] != 3 && firm(w, g[0], c) ? time(w, g[0], c) : FOREVER;
        }
        return nearest(g[2], costs);
    }

    private int meeting(int[] ours, int theirs) {
        int[] sums = inTime(ours);
        World t = w.twin();
        int[] foe = t.galleries.get(theirs);
        t.galleries.removeIf(g -> g[1] == 1);
        for (int n = 0; n <= 60; n++) {
            int by = n;
            boolean near = sums[foe[2]] <= n || beside(foe[2]).stream().anyMatch(c -> sums[c] <= by);
            if (foe[5] == 0 && near) {
                return n;
            }
            night(t);
        }
        return FOREVER;
    }

    private long whose(int theirs) {
        int[] t = galleryOf(theirs);
        need(t[5] == 0 && t[1] == 0 && w.night <= 939, Check.STATE);
        int[] soon = new int[w.galleries.size()];
        for (int i = 0; i < soon.length; i++) {
            int[] o = w.galleries.get(i);
            soon[i] = o[1] == 1 && o[5] == 0 ? meeting(o, theirs) : FOREVER;
        }
        int least = Arrays.stream(soon).min().getAsInt();
        need(least < FOREVER, Check.NONE);
        for (int i = 0; ; i++) {
            if (soon[i] == least) {
                return i;
            }
        }
    }

    private int heard(int kind, int head, int dish) {
        return loud(kind, head) / (1 + farFrom(head)[dish]);
    }

    private int peas(World at, int c) {
        int sum = 0;
        for (int[] g : at.galleries) {
            sum += g[1] == 0 && g[5] == 0 ? heard(g[0], g[2], c) : 0;
        }
        return sum;
    }

    private long dishAct(String name, Object[] a) {
        int v = n(a, 0);
        switch (name) {
            case "dish":
                cell(v);
                need(w.dishes.size() < 9, Check.FULL);
                w.dishes.add(v);
                return w.dishes.size() - 1;
            case "move":
                within(v, 0, w.dishes.size() - 1);
                cell(n(a, 1));
                return w.dishes.set(v, n(a, 1));
            case "peas":
                within(v, 0, w.dishes.size() - 1);
                return peas(w, w.dishes.get(v));
            case "hears": {
                within(v, 0, w.dishes.size() - 1);
                int[] g = galleryOf(n(a, 1));
                return g[5] == 1 || g[1] == 1 ? 0 : heard(g[0], g[2], w.dishes.get(v));
            }
            case "where":
                within(v, 0, 5);
                need(!w.dishes.isEmpty(), Check.NONE);
                return setOf(where(v));
            default:
                within(v, 0, 5);
                need(!w.dishes.isEmpty(), Check.NONE);
                need(!where(v).isEmpty(), Check.NONE);
                need(w.dishes.size() < 9, Check.FULL);
                return best(v);
        }
    }

    private List<Integer> where(int kind) {
        List<Integer> peasNow = new ArrayList<>();
        for (int d : w.dishes) {
            peasNow.add(peas(w, d));
        }
        List<Integer> found = new ArrayList<>();
        for (int c = 0; c < 48; c++) {
            int[] far = farFrom(c);
            boolean all = true;
            for (int d = 0; d < w.dishes.size(); d++) {
                all &= loud(kind, c) / (1 + far[w.dishes.get(d)]) == peasNow.get(d);
            }
            if (all) {
                found.add(c);
            }
        }
        return found;
    }

    private int best(int kind) {
        int fewest = FOREVER;
        int found = -1;
        for (int c = 0; c < 48; c++) {
            w.dishes.add(c);
            int size = where(kind).size();
            w.dishes.remove(w.dishes.size() - 1);
            if (size < fewest) {
                fewest = size;
                found = c;
            }
        }
        return found;
    }

    private boolean reached(int from, int powder, int c) {
        int apart = Math.abs(from / 8 - c / 8) + Math.abs(from % 8 - c % 8);
        return powder - 3 * apart > (w.stuff[c] == 2 ? 4 : 0);
    }

    private long fallen(int c, int powder) {
        return w.wall.stream().filter(b -> reached(c, powder, b)).count();
    }

    private long powderAct(String name, Object[] a) {
        switch (name) {
            case "falls":
                cell(n(a, 0));
                within(n(a, 1), 1, 30);
                return fallen(n(a, 0), n(a, 1));
            case "blow":
                cell(n(a, 0));
                within(n(a, 1), 1, 30);
                return blow(n(a, 0), n(a, 1));
            case "mine": {
                within(n(a, 0), 1, 30);
                long most = 0;
                for (int c = 0; c < 48; c++) {
                    most = w.stuff[c] == 3 ? most : Math.max(most, fallen(c, n(a, 0)));
                }
                need(most > 0, Check.NONE);
                int c = 0;
                while (w.stuff[c] == 3 || fallen(c, n(a, 0)) < most) {
                    c++;
                }
                return c;
            }
            case "bread": {
                within(n(a, 0), 0, 2);
                int what = n(a, 0);
                within(n(a, 1), new int[] {0, 1, 1}[what], new int[] {999999, 999, 99}[what]);
                int was = w.bread[what];
                w.bread[what] = n(a, 1);
                return was;
            }
            case "lasts":
                return lasts(w.bread[2]);
            default:
                within(n(a, 0), 1, 999);
                for (int ration = 99; ration >= 1; ration--) {
                    if (lasts(ration) >= n(a, 0)) {
                        return ration;
                    }
                }
                throw new Finding(Check.NONE);
        }
    }

    private long blow(int c, int powder) {
        List<Integer> cells = new ArrayList<>();
        for (int b = 0; b < 48; b++) {
            if (reached(c, powder, b)) {
                cells.add(b);
            }
        }
        w.wall.removeAll(cells);
        long lost = 0;
        for (int[] g : w.galleries) {
            if (cells.contains(g[2])) {
                lost += 1 - g[5];
                g[5] = 1;
            }
        }
        for (int b : cells) {
            w.stuff[b] = w.stuff[b] == 2 ? 0 : w.stuff[b];
        }
        return lost;
    }

    private int lasts(int ration) {
        int days = 0;
        int left = w.bread[0];
        int r = ration;
        while (days < 999 && left >= w.bread[1] * r) {
            left -= w.bread[1] * r;
            days++;
            if (days % 5 == 0 && r > 1) {
                r--;
            }
        }
        return days;
    }

    private long textAct(String name, Object[] a) {
        if (name.equals("feed")) {
            within(n(a, 1), 1, 4);
            need(tape.size() + n(a, 1) <= 120, Check.FULL);
            byte[] four = java.nio.ByteBuffer.allocate(4).putInt(n(a, 0)).array();
            for (int i = 4 - n(a, 1); i < 4; i++) {
                tape.add(four[i] & 255);
            }
            return tape.size();
        }
        StringBuilder text = new StringBuilder();
        for (int b : tape) {
            text.append((char) b);
        }
        tape.clear();
        if (name.equals("wipe")) {
            return text.length();
        }
        World t = w.twin();
        try {
            int items = new Reader(text.toString(), t).items();
            w = t;
            return items;
        } catch (Fault f) {
            return -1 - f.place;
        }
    }

    /** Cuts the text into all its tokens first, then reads them item by item. */
    private static final class Reader {
        private final List<String> tokens = new ArrayList<>();
        private final List<Integer> places = new ArrayList<>();
        private final World t;
        private int at = 0;

        Reader(String text, World t) {
            this.t = t;
            Matcher m = Pattern.compile(" +|([a-z]+|[0-9]+|;|[\\x00-\\xff])").matcher(text);
            while (m.find()) {
                if (m.group(1) != null) {
                    tokens.add(m.group(1));
                    places.add(m.start());
                }
            }
            tokens.add("");
            places.add(text.length());
        }

        private String take() {
            at++;
            return tokens.get(at - 1);
        }

        private boolean takes(String word) {
            boolean is = tokens.get(at).equals(word);
            at += is ? 1 : 0;
            return is;
        }

        private Fault faultBehind() {
            return new Fault(places.get(at - 1));
        }

        private void word(String word) {
            if (!take().equals(word)) {
                throw faultBehind();
            }
        }

        private boolean numberNext() {
            return tokens.get(at).matches("[0-9]+");
        }

        private int number(int least, int most) {
            boolean is = numberNext();
            String digits = take();
            if (!is) {
                throw faultBehind();
            }
            java.math.BigInteger v = new java.math.BigInteger(digits);
            if (v.bitLength() > 30 || v.intValue() < least || v.intValue() > most) {
                throw faultBehind();
            }
            return v.intValue();
        }

        int items() {
            int n = 0;
            do {
                item(take());
                n++;
            } while (takes(";"));
            word("");
            return n;
        }

        private void item(String first) {
            int stuff = Arrays.asList(STUFF_NAMES).indexOf(first);
            int kind = Arrays.asList(KIND_NAMES).indexOf(first);
            if (stuff >= 0 || first.equals("wall")) {
                lay(stuff);
            } else if (kind >= 0 && t.galleries.size() < 10) {
                int side = takes("theirs") ? 0 : 1;
                if (side == 1) {
                    word("ours");
                }
                word("at");
                int c = number(0, 47);
                word("way");
                t.galleries.add(new int[] {kind, side, c, number(0, 3), 0, 0});
            } else if (first.equals("dish") && t.dishes.size() < 9) {
                t.dishes.add(number(0, 47));
            } else if (first.equals("bread")) {
                t.bread[0] = number(0, 999999);
                t.bread[1] = takes("mouths") ? number(1, 999) : t.bread[1];
                t.bread[2] = takes("ration") ? number(1, 99) : t.bread[2];
            } else {
                throw faultBehind();
            }
        }

        private void lay(int stuff) {
            TreeSet<Integer> cells = new TreeSet<>();
            cells.add(number(0, 47));
            while (numberNext()) {
                cells.add(number(cells.last() + 1, 47));
            }
            if (takes("to")) {
                int from = cells.last() + 1;
                int to = number(from, 47);
                for (int c = from; c <= to; c++) {
                    cells.add(c);
                }
            }
            for (int c : cells) {
                if (stuff < 0) {
                    t.wall.add(c);
                } else {
                    t.stuff[c] = stuff;
                }
            }
        }
    }

    private long[] sheetOf(int s) {
        within(s, 0, 3);
        need(sheets[s] != null, Check.MISSING);
        return sheets[s];
    }

    private static long low(long v, int bits) {
        return v << 64 - bits >> 64 - bits;
    }

    private long sheetAct(String name, Object[] a) {
        int s = n(a, 0);
        switch (name) {
            case "sheet":
                within(s, 0, 3);
                need(Arrays.asList(0, 8, 16, 64).contains(a[1]), Check.BEYOND);
                need(n(a, 2) >= 0, Check.SIZE);
                need(n(a, 2) <= 40, Check.BEYOND);
                bits[s] = n(a, 1);
                sheets[s] = bits[s] == 0 ? null : new long[n(a, 2)];
                return bits[s] == 0 ? 0 : n(a, 2);
            case "write": {
                long[] row = sheetOf(s);
                within(n(a, 1), 0, row.length - 1);
                long was = row[n(a, 1)];
                row[n(a, 1)] = low((Long) a[2], bits[s]);
                return was;
            }
            case "copy":
                return copy(a);
            case "lays": {
                long[] row = sheetOf(s);
                cell(n(a, 1));
                int came = 0;
                for (int c = n(a, 1); c < 48 && c - n(a, 1) < row.length; c++) {
                    long v = row[c - n(a, 1)];
                    came += v >= 0 && v < 4 ? 1 : 0;
                    w.stuff[c] = v >= 0 && v < 4 ? (int) v : w.stuff[c];
                }
                return came;
            }
            case "book": {
                long[] row = sheetOf(s);
                int n = Math.min(row.length, w.dishes.size());
                for (int d = 0; d < n; d++) {
                    row[d] = low(peas(w, w.dishes.get(d)), bits[s]);
                }
                return n;
            }
            default:
                return read(sheetOf(s));
        }
    }

    private long copy(Object[] a) {
        within(n(a, 0), 0, 3);
        within(n(a, 2), 0, 3);
        long[] from = sheetOf(n(a, 0));
        long[] to = sheetOf(n(a, 2));
        need(bits[n(a, 0)] == bits[n(a, 2)], Check.KIND);
        int n = n(a, 4);
        need(n(a, 1) >= 0 && n(a, 3) >= 0 && n >= 0, Check.BEYOND);
        need((long) n(a, 1) + n <= from.length && (long) n(a, 3) + n <= to.length, Check.BEYOND);
        long[] was = from.clone();
        for (int i = 0; i < n; i++) {
            to[n(a, 3) + i] = was[n(a, 1) + i];
        }
        return n;
    }

    private long read(long[] row) {
        need(w.night <= 939, Check.STATE);
        for (int n = 0; n <= 60; n++) {
            World t = on(w, n);
            boolean all = true;
            for (int d = 0; d < Math.min(row.length, w.dishes.size()); d++) {
                all = all && peas(t, w.dishes.get(d)) == row[d];
            }
            if (all) {
                return n;
            }
        }
        throw new Finding(Check.NONE);
    }

    private long imageAct(String name, Object[] a) {
        switch (name) {
            case "image":
                kept = w.twin();
                return 1;
            case "undo":
                need(kept != null, Check.NONE);
                w = kept.twin();
                return w.galleries.size();
            case "tear": {
                int had = kept == null ? 0 : 1;
                kept = null;
                return had;
            }
            case "count":
                within(n(a, 0), 0, 6);
                return new int[] {w.galleries.size(), w.dishes.size(), w.wall.size(), tape.size(),
                    w.bread[0], w.bread[1], w.bread[2]}[n(a, 0)];
            default:
                within(n(a, 0), -1, 6);
                return n(a, 0) < 0 ? Arrays.stream(told).sum() : told[n(a, 0)];
        }
    }
}
