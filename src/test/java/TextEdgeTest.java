/** Promises 33 to 35 and THE TEXT at their edges: bytes, tokens, each item, each FAULT. */
public final class TextEdgeTest {
    private static final Check check = new Check();
    private static final String[] KINDS = {"gallery", "propped", "sap", "mine", "feint", "deep"};
    private static final String[] STUFFS = {"clay", "sand", "rock", "water"};

    public static void main(String[] args) {
        feedEachCount();
        feedUpToTheEnd();
        feedOfWrapAround();
        wipe();
        eachByteBehind();
        eachByteAhead();
        eachByteWithinAWord();
        numbersAtMost();
        groundOfEachCell();
        groundRuns();
        groundFaults();
        galleryWords();
        galleryNumbers();
        galleriesFull();
        dishesFull();
        breadNumbers();
        breadFaults();
        itemsAndSigns();
        asManyItemsAsCanBe();
        faultAtTheLastByte();
        endsTooEarly();
        firstFaultCounts();
        faultChangesNothing();
        check.end();
    }

    /** On an object of its own: the answer, an empty TAPE behind it, and never a finding. */
    private static PeasDrum siege(String text, int due) {
        PeasDrum x = new PeasDrum();
        siege(x, text, due);
        check.due("35: no finding by '" + text + "'", x.status(-1), 0);
        return x;
    }

    private static void siege(PeasDrum x, String text, int due) {
        check.due("35: '" + text + "'", Check.siege(x, text), due);
        check.due("35: THE TAPE behind '" + text + "'", x.count(3), 0);
    }

    private static void fault(String text, int place) {
        siege(text, -1 - place);
    }

    private static void feedEachCount() {
        int bytes = 'a' << 24 | 'b' << 16 | 'c' << 8 | 'd';
        for (int n = 1; n <= 4; n++) {
            PeasDrum x = new PeasDrum();
            check.due("33: feed(.., " + n + ")", x.feed(bytes, n), n);
            check.due("33: once more", x.feed(bytes, n), 2 * n);
            check.due("45: count(3)", x.count(3), 2 * n);
        }
        // Each of these four is a right text only if just the lowest bytes came, the highest first.
        int[][] feeds = {{0x7e7e7e00 | '7', 1}, {0x7e7e0000 | '1' << 8 | '7', 2},
            {0x7e000000 | ' ' << 16 | '1' << 8 | '7', 3}, {' ' << 24 | '0' << 16 | '1' << 8 | '7', 4}};
        int[] cells = {7, 17, 17, 17};
        for (int i = 0; i < 4; i++) {
            PeasDrum x = new PeasDrum();
            Check.feed(x, "dish");
            x.feed(feeds[i][0], feeds[i][1]);
            check.due("33: as a text", x.siege(), 1);
            check.due("33: in that order", x.move(0, 0), cells[i]);
        }
    }

    private static void feedUpToTheEnd() {
        for (int n = 1; n <= 4; n++) {
            PeasDrum x = new PeasDrum();
            Check.feed(x, "dish 7" + " ".repeat(114 - n));
            check.due("33: the last " + n, x.feed(0x20202020, n), 120);
            for (int more = 1; more <= 4; more++) {
                check.due("33: " + more + " too many", x.feed(0, more), Check.FULL);
            }
            check.due("33: 120 at most", x.count(3), 120);
            check.due("33: all of them count", x.siege(), 1);
            check.due("33: then there is room", x.feed(0, 4), 4);
            PeasDrum y = new PeasDrum();
            Check.feed(y, "dish 7" + " ".repeat(115 - n));
            check.due("33: one too many of " + n, y.feed(0x3b3b3b3b, n), Check.FULL);
            check.due("33: none of them came", y.count(3), 121 - n);
            check.due("33: none of them came", y.siege(), 1);
        }
    }

    private static void feedOfWrapAround() {
        for (int bytes : new int[] {-1, Integer.MIN_VALUE, Integer.MAX_VALUE, 0, 0x80808080}) {
            for (int n = 1; n <= 4; n++) {
                PeasDrum x = new PeasDrum();
                Check.feed(x, "dish 5");
                check.due("33: feed(" + bytes + ", " + n + ")", x.feed(bytes, n), 6 + n);
                check.due("33: bytes that begin no TOKEN", x.siege(), -7);
            }
        }
    }

    private static void wipe() {
        PeasDrum x = new PeasDrum();
        check.due("34: none", x.wipe(), 0);
        x.feed(0, 1);
        check.due("34: one", x.wipe(), 1);
        Check.feed(x, " ".repeat(120));
        check.due("34: as many as can be", x.wipe(), 120);
        check.due("34: none", x.wipe(), 0);
        check.due("34: empty", x.count(3), 0);
        Check.feed(x, "rock 5;");
        x.wipe();
        Check.feed(x, "dish 3");
        check.due("34: nothing of it is left", x.siege(), 1);
        check.due("34: nothing of it is left", x.cellOf(5, 0), 0);
    }

    private static void eachByteBehind() {
        for (int b = 0; b < 256; b++) {
            int due = -1 - 6;
            if (b >= '0' && b <= '9' || b == ' ') {
                due = 1;
            } else if (b == ';') {
                due = -1 - 7;
            }
            PeasDrum x = siege("dish 1" + (char) b, due);
            if (b >= '0' && b <= '9') {
                check.due("35: a NUMBER as long as can be", x.move(0, 0), 10 + b - '0');
            }
        }
    }

    private static void eachByteAhead() {
        for (int b = 0; b < 256; b++) {
            siege((char) b + "dish 1", b == ' ' ? 1 : -1);
            siege("dish 1;" + (char) b + " dish 1", b == ' ' ? 2 : -1 - 7);
        }
    }

    private static void eachByteWithinAWord() {
        for (int b = 0; b < 256; b++) {
            boolean letter = b >= 'a' && b <= 'z';
            // Behind "dish" a digit makes 10, 11, .. 91, of which 0 to 41 are CELLS.
            int due = letter ? -1 : b == ' ' || b >= '0' && b <= '4' ? 1 : -1 - 4;
            siege("dish" + (char) b + "1", due);
            // Whatever parts a WORD makes another WORD of it.
            siege("di" + (char) b + "sh 1", -1);
        }
    }

    private static void numbersAtMost() {
        check.due("35: 999999", siege("bread 999999", 1).count(4), 999999);
        fault("bread 1000000", 6);
        fault("bread 1000001 mouths 5", 6);
        check.due("35: noughts ahead", siege("bread 0000999999", 1).count(4), 999999);
        check.due("35: noughts alone", siege("bread 000000000000", 1).count(4), 0);
        fault("bread 00001000000", 6);
        // Numbers that would come out right if they wrapped around.
        fault("bread 4294967296", 6);
        fault("bread 4294967301", 6);
        fault("bread 18446744073709551621", 6);
        fault("dish 4294967301", 5);
        fault("dish 65541", 5);
        fault("dish 261", 5);
        fault("rock 4294967301", 5);
        fault("sap ours at 4294967301 way 0", 12);
        fault("sap ours at 5 way 4294967296", 18);
        fault("bread " + "9".repeat(114), 6);
        fault("dish " + "1".repeat(115), 5);
        check.due("35: 113 noughts ahead", siege("dish " + "0".repeat(113) + "47", 1).move(0, 0), 47);
    }

    private static void groundOfEachCell() {
        for (int cell = 0; cell < 48; cell++) {
            for (int stuff = 0; stuff < 4; stuff++) {
                PeasDrum x = new PeasDrum();
                x.ground(cell, 3 - stuff);
                siege(x, STUFFS[stuff] + " " + cell, 1);
                check.due("35: " + STUFFS[stuff] + " " + cell, x.cellOf(cell, 0), stuff);
            }
            check.due("35: wall " + cell, siege("wall " + cell, 1).walls(), 1L << cell);
            check.due("35: dish " + cell, siege("dish " + cell, 1).move(0, 0), cell);
        }
        for (String word : new String[] {"clay", "sand", "rock", "water", "wall", "dish"}) {
            fault(word + " 48", word.length() + 1);
            fault(word + " 1000000", word.length() + 1);
            fault(word + " -1", word.length() + 1);
            fault(word, word.length());
            fault(word + ";", word.length());
            fault(word + " to 5", word.length() + 1);
        }
    }

    private static void groundRuns() {
        check.due("35: all in a run", siege("wall 0 to 47", 1).walls(), 0xffffffffffffL);
        check.due("35: the shortest run", siege("wall 46 to 47", 1).walls(), Check.set(46, 47));
        check.due("35: the first two", siege("wall 0 to 1", 1).walls(), Check.set(0, 1));
        check.due("35: one and a run", siege("wall 3 9 to 11", 1).walls(), Check.set(3, 9, 10, 11));
        check.due("35: ends", siege("wall 0 47", 1).walls(), Check.set(0, 47));
        check.due("35: one above the other", siege("wall 4 5 6", 1).walls(), Check.set(4, 5, 6));
        StringBuilder many = new StringBuilder("wall");
        long set = 0;
        for (int cell = 0; cell < 42; cell++) {
            many.append(' ').append(cell);
            set |= 1L << cell;
        }
        check.due("35: as many as THE TAPE takes", siege(many.toString(), 1).walls(), set);
        PeasDrum x = new PeasDrum();
        x.wall(20, true);
        siege(x, "wall 20 21", 1);
        check.due("35: added to WALL", x.walls(), Check.set(20, 21));
        siege(x, "clay 20;rock 21", 2);
        check.due("35: WALL stays", x.walls(), Check.set(20, 21));
    }

    private static void groundFaults() {
        fault("rock 5 5", 7);
        fault("rock 5 4", 7);
        fault("rock 47 47", 8);
        fault("rock 47 0", 8);
        fault("rock 0 0", 7);
        fault("rock 1 3 2", 9);
        fault("rock 5 48", 7);
        fault("rock 5 to 5", 10);
        fault("rock 5 to 4", 10);
        fault("rock 0 to 0", 10);
        fault("rock 5 to 48", 10);
        fault("rock 47 to 47", 11);
        fault("rock 47 to 48", 11);
        fault("rock 47 to", 10);
        fault("rock 5 to", 9);
        fault("rock 5 to;", 9);
        fault("rock 5 to to 6", 10);
        fault("rock 5 to 6 7", 12);
        fault("rock 5 to 6 to 7", 12);
        fault("rock 3 9 to 9", 12);
        fault("rock 5 way 6", 7);
        fault("rock 5 t 6", 7);
        fault("rock 5 too 6", 7);
        fault("rock 5 rock 6", 7);
        fault("rock 5 6 wall", 9);
    }

    private static void galleryWords() {
        for (int kind = 0; kind < 6; kind++) {
            for (int side = 0; side < 2; side++) {
                String words = KINDS[kind] + (side == 0 ? " theirs" : " ours");
                PeasDrum x = siege(words + " at 13 way 2", 1);
                int[] due = {kind, side, 13, 2, 0, 0};
                for (int what = 0; what < 6; what++) {
                    check.due("35: " + words + ", of(0, " + what + ")", x.of(0, what), due[what]);
                }
                fault(words, words.length());
                fault(words + " at", words.length() + 3);
                fault(words + " at 13", words.length() + 6);
                fault(words + " at 13 way", words.length() + 10);
                fault(words + " at 13 way 2 3", words.length() + 13);
                fault(words + " 13 way 2", words.length() + 1);
                fault(words + " way 2 at 13", words.length() + 1);
                fault(words + " at 13 2", words.length() + 7);
                fault(words + " at 13 at 2", words.length() + 7);
                fault(words + " at way 2", words.length() + 4);
                fault(words + " at 13 way way", words.length() + 11);
            }
            fault(KINDS[kind], KINDS[kind].length());
            fault(KINDS[kind] + " at 13 way 2", KINDS[kind].length() + 1);
            fault(KINDS[kind] + " their at 13 way 2", KINDS[kind].length() + 1);
            fault(KINDS[kind] + " our at 13 way 2", KINDS[kind].length() + 1);
            fault(KINDS[kind] + " ourss at 13 way 2", KINDS[kind].length() + 1);
            fault(KINDS[kind] + "s ours at 13 way 2", 0);
            fault(KINDS[kind].substring(1) + " ours at 13 way 2", 0);
        }
    }

    private static void galleryNumbers() {
        check.due("35: at 0", siege("sap ours at 0 way 0", 1).of(0, 2), 0);
        check.due("35: at 47", siege("sap ours at 47 way 0", 1).of(0, 2), 47);
        fault("sap ours at 48 way 0", 12);
        check.due("35: way 0", siege("sap ours at 5 way 0", 1).of(0, 3), 0);
        check.due("35: way 3", siege("sap ours at 5 way 3", 1).of(0, 3), 3);
        fault("sap ours at 5 way 4", 18);
        check.due("35: without blanks", siege("sap ours at5way3;dish4", 2).of(0, 3), 3);
    }

    private static void galleriesFull() {
        for (int kind = 0; kind < 6; kind++) {
            PeasDrum x = new PeasDrum();
            for (int i = 0; i < 9; i++) {
                x.gallery(0, 0, 0, 0);
            }
            String item = KINDS[kind] + " ours at 7 way 1";
            siege(x, item + ";" + item, -1 - item.length() - 1);
            check.due("35: none came", x.count(0), 9);
            siege(x, item, 1);
            check.due("35: the 10th", x.count(0), 10);
            siege(x, item, -1);
            siege(x, KINDS[kind], -1);
            siege(x, KINDS[kind] + " x", -1);
            siege(x, "  " + KINDS[kind], -3);
            siege(x, "wall 5;" + KINDS[kind] + "?", -1 - 7);
            check.due("35: an 11th is no finding", x.status(-1), 0);
            check.due("35: ten", x.count(0), 10);
            check.due("35: nothing else came", x.walls(), 0);
        }
        // Blown up, they are still there.
        PeasDrum y = new PeasDrum();
        for (int i = 0; i < 10; i++) {
            y.gallery(0, 0, 0, 0);
        }
        y.blow(0, 1);
        siege(y, "sap ours at 7 way 1", -1);
        siege(y, "dish 7;rock 4", 2);
    }

    private static void dishesFull() {
        PeasDrum x = new PeasDrum();
        siege(x, "dish 0;dish 1;dish 2;dish 3;dish 4;dish 5;dish 6;dish 7;dish 8;dish 9", -1 - 63);
        check.due("35: none came", x.count(1), 0);
        siege(x, "dish 0;dish 1;dish 2;dish 3;dish 4;dish 5;dish 6;dish 7;dish 8", 9);
        check.due("35: nine", x.count(1), 9);
        siege(x, "dish 9", -1);
        siege(x, "dish", -1);
        siege(x, "dish 48", -1);
        siege(x, "rock 5;dish", -1 - 7);
        check.due("35: a 10th is no finding", x.status(-1), 0);
        check.due("35: nothing came", x.cellOf(5, 0), 0);
        for (int d = 0; d < 9; d++) {
            check.due("35: DISH " + d, x.move(d, 0), d);
        }
        siege(x, "sap ours at 5 way 0", 1);
    }

    private static void breadNumbers() {
        int[][] right = {{0, 1, 1}, {999999, 999, 99}, {5, 1, 99}, {5, 999, 1}};
        for (int[] r : right) {
            PeasDrum x = siege("bread " + r[0] + " mouths " + r[1] + " ration " + r[2], 1);
            check.due("35: OUNCES", x.count(4), r[0]);
            check.due("35: MOUTHS", x.count(5), r[1]);
            check.due("35: RATION", x.count(6), r[2]);
        }
        PeasDrum y = siege("bread 7", 1);
        check.due("35: MOUTHS stay", y.count(5), 10);
        check.due("35: RATION stays", y.count(6), 16);
        siege(y, "bread 8 mouths 3", 1);
        check.due("35: RATION stays", y.count(6), 16);
        siege(y, "bread 9 ration 4", 1);
        check.due("35: MOUTHS stay", y.count(5), 3);
        check.due("35: RATION", y.count(6), 4);
        siege(y, "bread 1;bread 2 mouths 2;bread 3 ration 3", 3);
        check.due("35: the later one", 100 * y.count(4) + 10 * y.count(5) + y.count(6), 323);
    }

    private static void breadFaults() {
        fault("bread 1000000", 6);
        fault("bread 1 mouths 0", 15);
        fault("bread 1 mouths 1000", 15);
        fault("bread 1 ration 0", 15);
        fault("bread 1 ration 100", 15);
        fault("bread 1 mouths 2 ration 0", 24);
        fault("bread 1 mouths 2 ration 100", 24);
        fault("bread", 5);
        fault("bread;", 5);
        fault("bread mouths 5", 6);
        fault("bread ration 5", 6);
        fault("bread 1 mouths", 14);
        fault("bread 1 ration", 14);
        fault("bread 1 mouths ration 5", 15);
        fault("bread 1 mouths 2 ration", 23);
        fault("bread 1 ration 2 mouths 3", 17);
        fault("bread 1 mouths 2 mouths 3", 17);
        fault("bread 1 ration 2 ration 3", 17);
        fault("bread 1 mouths 2 ration 3 4", 26);
        fault("bread 1 2", 8);
        fault("bread 1 to 2", 8);
        fault("bread 1 mouth 2", 8);
        fault("bread 1 rations 2", 8);
    }

    private static void itemsAndSigns() {
        fault("", 0);
        fault(" ", 1);
        fault(" ".repeat(120), 120);
        fault(";", 0);
        fault(" ;", 1);
        fault("dish 1;", 7);
        fault("dish 1; ", 8);
        fault("dish 1;;dish 2", 7);
        fault("dish 1; ;dish 2", 8);
        fault(";dish 1", 0);
        fault("dish 1 dish 2", 7);
        fault("dish 1 2", 7);
        fault("dish; 1", 4);
        fault("7", 0);
        fault("to 7", 0);
        fault("theirs at 7 way 1", 0);
        fault("mouths 7", 0);
        siege("dish 1", 1);
        siege(" dish 1 ", 1);
        siege("dish 1;dish 2", 2);
        siege(" dish 1 ; dish 2 ", 2);
    }

    private static void asManyItemsAsCanBe() {
        siege("rock1;".repeat(19) + "rock1", 20);
        siege("rock1;".repeat(19) + "rock1 ", 20);
        fault("rock1;".repeat(20), 120);
        PeasDrum x = siege("wall 7;dish 1;sap ours at 1 way 1;bread 1;rock 7;clay 7;sand 7;water 7;deep theirs at 2 way 2", 9);
        check.due("35: in their order", x.cellOf(7, 0), 3);
        check.due("35: GALLERIES by numbers", x.of(1, 0), 5);
    }

    private static void faultAtTheLastByte() {
        fault(" ".repeat(119) + "x", 119);
        fault(" ".repeat(119) + ";", 119);
        fault(" ".repeat(119) + "7", 119);
        fault("dish" + " ".repeat(115) + "x", 119);
        fault("dish 7" + " ".repeat(113) + "8", 119);
        fault("dish 7" + " ".repeat(113) + ";", 120);
        fault(" ".repeat(116) + "dish", 120);
        siege(" ".repeat(115) + "dish7", 1);
        siege("dish" + " ".repeat(115) + "7", 1);
        siege("dish" + " ".repeat(114) + "47", 1);
    }

    /** Whatever of a right text is left out behind, the FAULT is at its end or there is none. */
    private static void endsTooEarly() {
        String[] texts = {"rock 5 7 to 9", "mine theirs at 4 way 2", "dish 28", "bread 500 mouths 20 ration 9"};
        for (String text : texts) {
            for (int n = 0; n < text.length(); n++) {
                String part = text.substring(0, n);
                String last = part.substring(part.lastIndexOf(' ') + 1);
                boolean whole = part.matches("rock 5 ?(7 ?)?|dish 28?|bread [0-9]+ ?(mouths [0-9]+ ?)?(ration 9)?");
                boolean word = last.isEmpty() || last.matches("rock|to|mine|theirs|at|4|way|dish|bread|mouths|ration");
                int due = whole ? 1 : -1 - (word ? n : n - last.length());
                siege(part, due);
            }
            siege(text, 1);
        }
    }

    private static void firstFaultCounts() {
        fault("rock 48 49", 5);
        fault("rock 5 4 48 x", 7);
        fault("dish 48;dish 49", 5);
        fault("dish 1;dish 49 x", 12);
        fault("? dish 48", 0);
        fault("dish ?48", 5);
        fault("bread 1 mouths 0 ration 0", 15);
        fault("sap x at 48 way 4", 4);
        fault("sap ours at 48 way 4", 12);
        fault("dish 1;sap ours at 5 way 4;dish 48", 25);
    }

    private static void faultChangesNothing() {
        String[] items = {"clay 17", "sand 5", "rock 5 to 9", "water 0", "wall 0 to 47", "deep theirs at 0 way 1",
            "dish 9", "bread 1 mouths 1 ration 1"};
        for (String item : items) {
            PeasDrum x = new PeasDrum();
            PeasDrum twin = new PeasDrum();
            Towns.someTown(x);
            Towns.someTown(twin);
            x.wipe();
            twin.wipe();
            siege(x, item + ";x", -1 - item.length() - 1);
            check.due("35: no finding", x.status(-1), 0);
            check.isTrue("35: nothing changes by '" + item + ";x'", Look.atAll(x).equals(Look.atAll(twin)));
        }
    }
}
