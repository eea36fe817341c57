import java.lang.reflect.Method;
import java.util.ArrayList;
import java.util.Arrays;
import java.util.Comparator;
import java.util.List;
import java.util.Random;

/**
 * Runs of 512 calls by lot (always the same ones), each answer held against that of PlainModel. All
 * promises; the seed of a run that goes wrong is told.
 */
public final class ModelTest {
    private static final int RUNS = 360;
    /** An object is used for 512 calls; the look at its end needs some of them, and so may a text. */
    private static final int CALLS = 512;
    private static final int CALLS_AHEAD_OF_LOOK = 300;
    private static final String[] WORDS = {"clay", "sand", "rock", "water", "wall", "gallery", "propped",
        "sap", "mine", "feint", "deep", "theirs", "ours", "at", "way", "to", "dish", "bread", "mouths",
        "ration", ";", "x", "0", "7", "47", "48", "99", "999999", "1000000", "?", " "};

    private final Check check;
    private final Random lot;
    private final int seed;
    private final List<Method> methods;
    private final PeasDrum x = new PeasDrum();
    private final PlainModel model = new PlainModel();
    private boolean right = true;
    private int calls = 0;

    private ModelTest(Check check, int seed, List<Method> methods) {
        this.check = check;
        this.seed = seed;
        this.methods = methods;
        this.lot = new Random(seed);
    }

    public static void main(String[] args) throws ReflectiveOperationException {
        Check check = new Check();
        List<Method> methods = new ArrayList<>(Arrays.asList(PeasDrum.class.getDeclaredMethods()));
        methods.removeIf(m -> !java.lang.reflect.Modifier.isPublic(m.getModifiers()));
        methods.sort(Comparator.comparing(Method::getName));
        int runs = args.length > 0 ? Integer.parseInt(args[0]) : RUNS;
        for (int seed = 1; seed <= runs; seed++) {
            new ModelTest(check, seed, methods).run();
        }
        check.end();
    }

    private void run() throws ReflectiveOperationException {
        // Some runs have many wrong arguments, some none; some are near the last nights.
        int wrongOf100 = new int[] {0, 3, 30}[seed % 3];
        boolean late = seed % 7 == 0;
        for (int i = late ? 15 : 0; i > 0; i--) {
            act("nights", 60);
        }
        prepare();
        while (calls < CALLS_AHEAD_OF_LOOK && right) {
            int kind = lot.nextInt(100);
            if (kind < 6) {
                tell();
            } else {
                Method m = methods.get(lot.nextInt(methods.size()));
                boolean tooOften = m.getName().equals("wipe") || m.getName().equals("nights") && !late
                        || m.getName().equals("blow") || m.getName().equals("tear");
                if (!tooOften || lot.nextInt(4) == 0) {
                    act(m.getName(), arguments(m, wrongOf100));
                }
            }
        }
        look();
    }

    private void prepare() throws ReflectiveOperationException {
        for (int i = lot.nextInt(40); i > 0; i--) {
            act("ground", lot.nextInt(48), lot.nextInt(4));
            act("wall", lot.nextInt(48), lot.nextBoolean());
        }
        for (int i = lot.nextInt(6); i > 0; i--) {
            act("gallery", lot.nextInt(6), lot.nextInt(2), lot.nextInt(48), lot.nextInt(4));
            act("dish", lot.nextInt(48));
        }
        act("image");
    }

    /** All that can be seen must be alike at the end. */
    private void look() throws ReflectiveOperationException {
        act("walls");
        for (int cell = 0; cell < 48 && right; cell++) {
            act("cellOf", cell, 0);
        }
        for (int i = 0; i < 60 && right; i++) {
            act("of", i / 6, i % 6);
        }
        for (int i = 0; i < 9 && right; i++) {
            act("peas", i);
            act("move", i, 0);
            act("count", i);
            act("now", i);
            act("status", i - 2);
        }
    }

    private void act(String name, Object... arguments) throws ReflectiveOperationException {
        for (Method m : methods) {
            if (m.getName().equals(name) && calls < CALLS) {
                calls++;
                long got = ((Number) m.invoke(x, arguments)).longValue();
                long due = model.act(name, arguments);
                String call = "run " + seed + ": " + name + Arrays.toString(arguments);
                check.due(call, got, due);
                right = right && got == due;
            }
        }
    }

    private Object[] arguments(Method m, int wrongOf100) {
        Class<?>[] types = m.getParameterTypes();
        int[] most = mosts(m.getName());
        Object[] found = new Object[types.length];
        for (int i = 0; i < types.length; i++) {
            if (types[i] == boolean.class) {
                found[i] = lot.nextBoolean();
            } else if (types[i] == long.class) {
                found[i] = lot.nextInt(4) == 0 ? lot.nextLong() : (long) lot.nextInt(20);
            } else {
                boolean wrong = lot.nextInt(100) < wrongOf100;
                found[i] = wrong ? wrongNumber(most[i]) : lot.nextInt(most[i] + 1);
            }
        }
        if (m.getName().equals("sheet")) {
            found[1] = lot.nextInt(20) == 0 ? lot.nextInt(70) : new int[] {0, 8, 16, 16, 64}[lot.nextInt(5)];
        }
        if (m.getName().equals("bread") && lot.nextInt(10) > 0) {
            found[1] = lot.nextInt(new int[] {1000000, 1000, 100, 5}[(Integer) found[0] & 3]);
        }
        return found;
    }

    private int wrongNumber(int most) {
        int[] wrong = {-1, most + 1, Integer.MIN_VALUE, Integer.MAX_VALUE, lot.nextInt(), -most};
        return wrong[lot.nextInt(wrong.length)];
    }

    /** The greatest of each argument that may be right. */
    private static int[] mosts(String name) {
        switch (name) {
            case "ground": return new int[] {47, 3};
            case "wall": return new int[] {47, 1};
            case "cellOf": return new int[] {47, 2};
            case "far": return new int[] {47, 47};
            case "gallery": return new int[] {5, 1, 47, 3};
            case "of": return new int[] {9, 5};
            case "turn": return new int[] {9, 3};
            case "become": case "as": return new int[] {9, 5};
            case "does": return new int[] {9, 47, 2};
            case "nights": return new int[] {60};
            case "now": return new int[] {3};
            case "on": return new int[] {9, 99};
            case "lost": case "whose": return new int[] {9};
            case "comes": return new int[] {9, 47};
            case "meets": return new int[] {9, 9};
            case "dish": return new int[] {47};
            case "move": return new int[] {8, 47};
            case "peas": return new int[] {8};
            case "hears": return new int[] {8, 9};
            case "where": case "best": return new int[] {5};
            case "falls": case "blow": return new int[] {47, 30};
            case "mine": return new int[] {30};
            case "bread": return new int[] {2, 99};
            case "ration": return new int[] {60};
            case "feed": return new int[] {Integer.MAX_VALUE - 1, 4};
            case "sheet": return new int[] {3, 64, 12};
            case "write": return new int[] {3, 6, 0};
            case "copy": return new int[] {3, 4, 3, 4, 5};
            case "lays": return new int[] {3, 47};
            case "book": case "read": return new int[] {3};
            case "count": return new int[] {6};
            case "status": return new int[] {6};
            default: return new int[] {};
        }
    }

    /** A text that is nearly right comes to THE TAPE, and is told. */
    private void tell() throws ReflectiveOperationException {
        StringBuilder text = new StringBuilder();
        for (int i = lot.nextInt(5); i >= 0; i--) {
            text.append(item()).append(i > 0 || lot.nextInt(9) == 0 ? ";" : "");
        }
        if (lot.nextInt(3) == 0) {
            int at = lot.nextInt(text.length() + 1);
            text.insert(at, WORDS[lot.nextInt(WORDS.length)]);
        }
        if (lot.nextInt(6) == 0) {
            text.setLength(lot.nextInt(text.length() + 1));
        }
        if (lot.nextInt(10) == 0 && text.length() > 0) {
            text.setCharAt(lot.nextInt(text.length()), (char) lot.nextInt(256));
        }
        if (lot.nextInt(10) > 0) {
            act("wipe");
        }
        int at = 0;
        while (at < text.length()) {
            int n = Math.min(text.length() - at, 1 + lot.nextInt(4));
            int bytes = lot.nextInt();
            for (int i = 0; i < n; i++) {
                bytes = bytes << 8 | text.charAt(at + i);
            }
            act("feed", bytes, n);
            at += n;
        }
        act("siege");
    }

    private String blanks() {
        return new String[] {" ", " ", " ", "", "  "}[lot.nextInt(5)];
    }

    private String item() {
        StringBuilder item = new StringBuilder(blanks());
        int sort = lot.nextInt(10);
        if (sort < 5) {
            item.append(WORDS[sort]);
            int cell = lot.nextInt(20);
            for (int i = lot.nextInt(4); i >= 0; i--) {
                item.append(' ').append(cell);
                cell += lot.nextInt(14) + (lot.nextInt(30) == 0 ? 0 : 1);
            }
            item.append(lot.nextInt(3) == 0 ? blanks() + "to" + blanks() + cell : "");
        } else if (sort < 7) {
            item.append(WORDS[5 + lot.nextInt(6)]).append(' ').append(WORDS[11 + lot.nextInt(2)]);
            item.append(" at").append(blanks()).append(lot.nextInt(49)).append(blanks());
            item.append("way").append(blanks()).append(lot.nextInt(20) == 0 ? 4 : lot.nextInt(4));
        } else if (sort < 9) {
            item.append("dish").append(blanks()).append(lot.nextInt(49));
        } else {
            item.append("bread").append(blanks()).append(lot.nextInt(1000001)).append(blanks());
            item.append(lot.nextBoolean() ? "mouths" + blanks() + lot.nextInt(1001) : "").append(blanks());
            item.append(lot.nextBoolean() ? "ration" + blanks() + lot.nextInt(101) : "");
        }
        return item.append(blanks()).toString();
    }
}
