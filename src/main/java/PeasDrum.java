/**
 * A besieged town that listens for miners by dishes of peas. What each call promises stands in the
 * document (DOC.md); the words used here in names (camp, stuff, head, way, ..) are its own.
 */
public final class PeasDrum {
    private static final int BEYOND = -1000000001;
    private static final int FULL = -1000000002;
    private static final int KIND = -1000000003;
    private static final int NONE = -1000000004;
    private static final int STATE = -1000000005;
    private static final int MISSING = -1000000006;
    private static final int SIZE = -1000000007;
    private static final int FINDINGS = 7;

    private static final int SHEETS = 4;
    private static final int MOST_NIGHTS = 60;
    private static final int MOST_NIGHTS_ON = 99;
    private static final int MOST_POWDER = 30;
    private static final int NEVER = -1;

    private final Camp camp = new Camp();
    private final Camp kept = new Camp();
    private final Camp trial = new Camp();
    private boolean keeps = false;
    private final Gallery trialGallery = new Gallery();
    private final Sound sound = new Sound();
    private final Text text = new Text();
    private final Sheet[] sheets = new Sheet[SHEETS];
    private final int[] told = new int[FINDINGS];
    private final int[] digTimes = new int[Grid.CELLS];
    private final int[] digSums = new int[Grid.CELLS];
    private final int[] peasNow = new int[Camp.MOST_DISHES];

    public PeasDrum() {
        for (int s = 0; s < SHEETS; s++) {
            sheets[s] = new Sheet();
        }
    }

    // ---- ground

    public int ground(int cell, int v) {
        if (!Grid.isCell(cell) || !isIn(v, 0, Camp.WATER)) {
            return finding(BEYOND);
        }
        int was = camp.stuff[cell];
        camp.stuff[cell] = v;
        return was;
    }

    public int wall(int cell, boolean is) {
        if (!Grid.isCell(cell)) {
            return finding(BEYOND);
        }
        if (camp.isWalled(cell) == is) {
            return 0;
        }
        camp.wall ^= 1L << cell;
        return 1;
    }

    public int cellOf(int cell, int what) {
        if (!Grid.isCell(cell)) {
            return finding(BEYOND);
        }
        switch (what) {
            case 0:
                return camp.stuff[cell];
            case 1:
                return camp.isWalled(cell) ? 1 : 0;
            case 2:
                return camp.headsAt(cell);
            default:
                return finding(BEYOND);
        }
    }

    public long walls() {
        return camp.wall;
    }

    public int far(int from, int to) {
        if (!Grid.isCell(from) || !Grid.isCell(to)) {
            return finding(BEYOND);
        }
        sound.fitTo(camp.stuff);
        return sound.rowTo(to)[from];
    }

    // ---- galleries

    public int gallery(int kind, int side, int cell, int way) {
        if (!Kinds.isKind(kind) || !isIn(side, 0, 1) || !Grid.isCell(cell) || !Grid.isWay(way)) {
            return finding(BEYOND);
        }
        if (!camp.hasRoomForGallery()) {
            return finding(FULL);
        }
        return camp.addGallery(kind, side, cell, way);
    }

    public int of(int gallery, int what) {
        if (!camp.hasGallery(gallery)) {
            return finding(BEYOND);
        }
        Gallery g = camp.galleries[gallery];
        switch (what) {
            case 0:
                return g.kind;
            case 1:
                return g.side;
            case 2:
                return g.head;
            case 3:
                return g.way;
            case 4:
                return g.done;
            case 5:
                return g.lost ? 1 : 0;
            default:
                return finding(BEYOND);
        }
    }

    public int turn(int gallery, int v) {
        if (!camp.hasGallery(gallery) || !Grid.isWay(v)) {
            return finding(BEYOND);
        }
        Gallery g = camp.galleries[gallery];
        if (g.lost) {
            return finding(STATE);
        }
        int was = g.way;
        if (was != v) {
            g.way = v;
            g.done = 0;
        }
        return was;
    }

    public int become(int gallery, int kind) {
        if (!camp.hasGallery(gallery) || !Kinds.isKind(kind)) {
            return finding(BEYOND);
        }
        Gallery g = camp.galleries[gallery];
        int was = g.kind;
        g.kind = kind;
        return was;
    }

    public int as(int gallery, int kind) {
        if (!camp.hasGallery(gallery) || !Kinds.isKind(kind)) {
            return finding(BEYOND);
        }
        Gallery g = camp.galleries[gallery];
        if (!Kinds.isUnder(g.kind, kind)) {
            return finding(KIND);
        }
        return g.head;
    }

    public int does(int gallery, int cell, int what) {
        if (!camp.hasGallery(gallery) || !Grid.isCell(cell)) {
            return finding(BEYOND);
        }
        int kind = camp.galleries[gallery].kind;
        switch (what) {
            case 0:
                return camp.stuff[cell] == Camp.WATER ? finding(NONE) : camp.timeFor(kind, cell);
            case 1:
                return camp.loudIn(kind, cell);
            case 2:
                return camp.isFirm(kind, cell) ? 1 : 0;
            default:
                return finding(BEYOND);
        }
    }

    public int nights(int n) {
        if (!isIn(n, 1, MOST_NIGHTS)) {
            return finding(BEYOND);
        }
        if (!camp.hasNights(n)) {
            return finding(STATE);
        }
        int lostOnes = 0;
        for (int i = 0; i < n; i++) {
            lostOnes += camp.passNight();
        }
        return lostOnes;
    }

    public int now(int what) {
        switch (what) {
            case 0:
                return camp.night;
            case 1:
                return camp.galleriesLeft(Gallery.THEIRS);
            case 2:
                return camp.galleriesLeft(Gallery.OURS);
            case 3:
                return camp.met;
            default:
                return finding(BEYOND);
        }
    }

    // ---- on

    public int on(int gallery, int n) {
        if (!camp.hasGallery(gallery) || !isIn(n, 0, MOST_NIGHTS_ON)) {
            return finding(BEYOND);
        }
        if (!camp.hasNights(n)) {
            return finding(STATE);
        }
        trial.takeFrom(camp);
        for (int i = 0; i < n; i++) {
            trial.passNight();
        }
        return trial.galleries[gallery].head;
    }

    public int lost(int gallery) {
        if (!camp.hasGallery(gallery)) {
            return finding(BEYOND);
        }
        if (camp.galleries[gallery].lost || !camp.hasNights(MOST_NIGHTS_ON)) {
            return finding(STATE);
        }
        trial.takeFrom(camp);
        for (int n = 1; n <= MOST_NIGHTS_ON; n++) {
            trial.passNight();
            if (trial.galleries[gallery].lost) {
                return n;
            }
        }
        return finding(NONE);
    }

    public int first() {
        if (!camp.hasNights(MOST_NIGHTS_ON)) {
            return finding(STATE);
        }
        trial.takeFrom(camp);
        int below = trial.firstBelowWall();
        for (int n = 1; n <= MOST_NIGHTS_ON && below == NEVER; n++) {
            trial.passNight();
            below = trial.firstBelowWall();
        }
        return below == NEVER ? finding(NONE) : below;
    }

    public int comes(int gallery, int cell) {
        if (!camp.hasGallery(gallery) || !Grid.isCell(cell)) {
            return finding(BEYOND);
        }
        Gallery g = camp.galleries[gallery];
        if (!g.isLeftOf(Gallery.OURS)) {
            return finding(STATE);
        }
        digAnyWay(g);
        return digSums[cell] == Grid.UNREACHED ? finding(NONE) : digSums[cell];
    }

    public int meets(int ours, int theirs) {
        if (!camp.hasGallery(ours) || !camp.hasGallery(theirs)) {
            return finding(BEYOND);
        }
        Gallery digger = camp.galleries[ours];
        Gallery foe = camp.galleries[theirs];
        if (!digger.isLeftOf(Gallery.OURS) || !foe.isLeftOf(Gallery.THEIRS)
                || !camp.hasNights(MOST_NIGHTS)) {
            return finding(STATE);
        }
        int n = nightsToMeet(digger, foe);
        return n == NEVER ? finding(NONE) : n;
    }

    public int whose(int theirs) {
        if (!camp.hasGallery(theirs)) {
            return finding(BEYOND);
        }
        Gallery foe = camp.galleries[theirs];
        if (!foe.isLeftOf(Gallery.THEIRS) || !camp.hasNights(MOST_NIGHTS)) {
            return finding(STATE);
        }
        int soonest = MOST_NIGHTS + 1;
        int which = NEVER;
        for (int i = 0; i < camp.galleryCount; i++) {
            Gallery digger = camp.galleries[i];
            int n = digger.isLeftOf(Gallery.OURS) ? nightsToMeet(digger, foe) : NEVER;
            if (n != NEVER && n < soonest) {
                soonest = n;
                which = i;
            }
        }
        return which == NEVER ? finding(NONE) : which;
    }

    /** Fills digSums with the nights IN TIME from the head of a gallery to each cell. */
    private void digAnyWay(Gallery g) {
        for (int cell = 0; cell < Grid.CELLS; cell++) {
            digTimes[cell] = camp.canEnter(g.kind, cell) ? camp.timeFor(g.kind, cell) : Grid.CLOSED;
        }
        Grid.spread(g.head, digTimes, digSums);
    }

    /** Theirs goes on alone: none of ours digs its usual way here, so none can have met it before. */
    private int nightsToMeet(Gallery ours, Gallery theirs) {
        digAnyWay(ours);
        trialGallery.takeFrom(theirs);
        for (int n = 0; n <= MOST_NIGHTS && !trialGallery.lost; n++) {
            if (canBeNear(trialGallery.head, n)) {
                return n;
            }
            camp.dig(trialGallery);
        }
        return NEVER;
    }

    private boolean canBeNear(int cell, int n) {
        if (digSums[cell] <= n) {
            return true;
        }
        for (int way = 0; way < Grid.WAYS; way++) {
            int next = Grid.beside(cell, way);
            if (next != Grid.OUTSIDE && digSums[next] <= n) {
                return true;
            }
        }
        return false;
    }

    // ---- dishes

    public int dish(int cell) {
        if (!Grid.isCell(cell)) {
            return finding(BEYOND);
        }
        if (!camp.hasRoomForDish()) {
            return finding(FULL);
        }
        return camp.addDish(cell);
    }

    public int move(int dish, int cell) {
        if (!camp.hasDish(dish) || !Grid.isCell(cell)) {
            return finding(BEYOND);
        }
        int was = camp.dishes[dish];
        camp.dishes[dish] = cell;
        return was;
    }

    public int peas(int dish) {
        if (!camp.hasDish(dish)) {
            return finding(BEYOND);
        }
        sound.fitTo(camp.stuff);
        return peasAt(camp, camp.dishes[dish]);
    }

    public int hears(int dish, int gallery) {
        if (!camp.hasDish(dish) || !camp.hasGallery(gallery)) {
            return finding(BEYOND);
        }
        Gallery g = camp.galleries[gallery];
        if (!g.isLeftOf(Gallery.THEIRS)) {
            return 0;
        }
        sound.fitTo(camp.stuff);
        return heard(g.kind, g.head, sound.rowTo(camp.dishes[dish]));
    }

    public long where(int kind) {
        if (!Kinds.isKind(kind)) {
            return finding(BEYOND);
        }
        if (camp.dishCount == 0) {
            return finding(NONE);
        }
        sound.fitTo(camp.stuff);
        return placesOf(kind);
    }

    public int best(int kind) {
        if (!Kinds.isKind(kind)) {
            return finding(BEYOND);
        }
        if (camp.dishCount == 0) {
            return finding(NONE);
        }
        sound.fitTo(camp.stuff);
        long places = placesOf(kind);
        if (places == 0) {
            return finding(NONE);
        }
        if (!camp.hasRoomForDish()) {
            return finding(FULL);
        }
        int fewest = Grid.CELLS + 1;
        int cellOfFewest = 0;
        for (int cell = 0; cell < Grid.CELLS; cell++) {
            int left = placesLeft(kind, places, cell);
            if (left < fewest) {
                fewest = left;
                cellOfFewest = cell;
            }
        }
        return cellOfFewest;
    }

    /** What is heard of one of theirs of a kind, with its head at a cell, where that row goes. */
    private int heard(int kind, int head, int[] row) {
        int parts = 1 + row[head];
        return parts < 1 ? 0 : camp.loudIn(kind, head) / parts;
    }

    /** PEAS of a dish at a cell, with the galleries of a camp whose ground is this one's. */
    private int peasAt(Camp there, int cell) {
        int[] row = sound.rowTo(cell);
        int sum = 0;
        for (int i = 0; i < there.galleryCount; i++) {
            Gallery g = there.galleries[i];
            if (g.isLeftOf(Gallery.THEIRS)) {
                sum += heard(g.kind, g.head, row);
            }
        }
        return sum;
    }

    private long placesOf(int kind) {
        for (int d = 0; d < camp.dishCount; d++) {
            peasNow[d] = peasAt(camp, camp.dishes[d]);
        }
        long places = 0;
        for (int cell = 0; cell < Grid.CELLS; cell++) {
            if (accountsForPeas(kind, cell)) {
                places |= 1L << cell;
            }
        }
        return places;
    }

    private boolean accountsForPeas(int kind, int head) {
        for (int d = 0; d < camp.dishCount; d++) {
            if (heard(kind, head, sound.rowTo(camp.dishes[d])) != peasNow[d]) {
                return false;
            }
        }
        return true;
    }

    /** How many of these places a new dish at a cell would leave. */
    private int placesLeft(int kind, long places, int cell) {
        int peasThere = peasAt(camp, cell);
        int[] row = sound.rowTo(cell);
        int left = 0;
        for (int head = 0; head < Grid.CELLS; head++) {
            if ((places >>> head & 1) == 1 && heard(kind, head, row) == peasThere) {
                left++;
            }
        }
        return left;
    }

    // ---- powder, bread

    public int falls(int cell, int powder) {
        if (!Grid.isCell(cell) || !isIn(powder, 1, MOST_POWDER)) {
            return finding(BEYOND);
        }
        return Long.bitCount(camp.reachOf(cell, powder) & camp.wall);
    }

    public int blow(int cell, int powder) {
        if (!Grid.isCell(cell) || !isIn(powder, 1, MOST_POWDER)) {
            return finding(BEYOND);
        }
        return camp.blowUp(camp.reachOf(cell, powder));
    }

    public int mine(int powder) {
        if (!isIn(powder, 1, MOST_POWDER)) {
            return finding(BEYOND);
        }
        int most = 0;
        int cellOfMost = NEVER;
        for (int cell = 0; cell < Grid.CELLS; cell++) {
            int down = Long.bitCount(camp.reachOf(cell, powder) & camp.wall);
            if (camp.stuff[cell] != Camp.WATER && down > most) {
                most = down;
                cellOfMost = cell;
            }
        }
        return cellOfMost == NEVER ? finding(NONE) : cellOfMost;
    }

    public int bread(int what, int v) {
        int was;
        if (what == 0 && isIn(v, 0, Camp.MOST_OUNCES)) {
            was = camp.ounces;
            camp.ounces = v;
        } else if (what == 1 && isIn(v, 1, Camp.MOST_MOUTHS)) {
            was = camp.mouths;
            camp.mouths = v;
        } else if (what == 2 && isIn(v, 1, Camp.MOST_RATION)) {
            was = camp.ration;
            camp.ration = v;
        } else {
            was = finding(BEYOND);
        }
        return was;
    }

    public int lasts() {
        return camp.daysWith(camp.ration);
    }

    public int ration(int n) {
        if (!isIn(n, 1, Camp.MOST_DAYS)) {
            return finding(BEYOND);
        }
        // More ration never lasts longer, so that halving steps come to the greatest one.
        int greatest = 0;
        for (int step = 64; step > 0; step /= 2) {
            int tried = greatest + step;
            if (tried <= Camp.MOST_RATION && camp.daysWith(tried) >= n) {
                greatest = tried;
            }
        }
        return greatest == 0 ? finding(NONE) : greatest;
    }

    // ---- the text

    public int feed(int bytes, int n) {
        if (!isIn(n, 1, 4)) {
            return finding(BEYOND);
        }
        if (!text.hasRoom(n)) {
            return finding(FULL);
        }
        for (int i = n - 1; i >= 0; i--) {
            text.addByte((byte) (bytes >> 8 * i));
        }
        return text.length;
    }

    public int wipe() {
        return text.makeEmpty();
    }

    public int siege() {
        trial.takeFrom(camp);
        int answer = text.tellTo(trial);
        text.makeEmpty();
        if (answer >= 0) {
            camp.takeFrom(trial);
        }
        return answer;
    }

    // ---- sheets

    public int sheet(int s, int bits, int n) {
        if (!isSheet(s) || !Sheet.isWidth(bits) && bits != Sheet.IS_MISSING) {
            return finding(BEYOND);
        }
        if (n < 0) {
            return finding(SIZE);
        }
        if (n > Sheet.MOST) {
            return finding(BEYOND);
        }
        sheets[s].makeNew(bits, n);
        return sheets[s].size;
    }

    public long write(int s, int i, long v) {
        if (!isSheet(s)) {
            return finding(BEYOND);
        }
        Sheet sheet = sheets[s];
        if (sheet.isMissing()) {
            return finding(MISSING);
        }
        if (!isIn(i, 0, sheet.size - 1)) {
            return finding(BEYOND);
        }
        long was = sheet.numbers[i];
        sheet.put(i, v);
        return was;
    }

    public int copy(int s, int from, int t, int to, int n) {
        if (!isSheet(s) || !isSheet(t)) {
            return finding(BEYOND);
        }
        Sheet source = sheets[s];
        Sheet target = sheets[t];
        if (source.isMissing() || target.isMissing()) {
            return finding(MISSING);
        }
        if (source.bits != target.bits) {
            return finding(KIND);
        }
        if (!source.hasRun(from, n) || !target.hasRun(to, n)) {
            return finding(BEYOND);
        }
        System.arraycopy(source.numbers, from, target.numbers, to, n);
        return n;
    }

    public int lays(int s, int cell) {
        if (!isSheet(s)) {
            return finding(BEYOND);
        }
        Sheet sheet = sheets[s];
        if (sheet.isMissing()) {
            return finding(MISSING);
        }
        if (!Grid.isCell(cell)) {
            return finding(BEYOND);
        }
        int came = 0;
        for (int i = 0; i < sheet.size && cell + i < Grid.CELLS; i++) {
            long v = sheet.numbers[i];
            if (v >= 0 && v <= Camp.WATER) {
                camp.stuff[cell + i] = (int) v;
                came++;
            }
        }
        return came;
    }

    public int book(int s) {
        if (!isSheet(s)) {
            return finding(BEYOND);
        }
        Sheet sheet = sheets[s];
        if (sheet.isMissing()) {
            return finding(MISSING);
        }
        sound.fitTo(camp.stuff);
        int n = Math.min(sheet.size, camp.dishCount);
        for (int d = 0; d < n; d++) {
            sheet.put(d, peasAt(camp, camp.dishes[d]));
        }
        return n;
    }

    public int read(int s) {
        if (!isSheet(s)) {
            return finding(BEYOND);
        }
        Sheet sheet = sheets[s];
        if (sheet.isMissing()) {
            return finding(MISSING);
        }
        if (!camp.hasNights(MOST_NIGHTS)) {
            return finding(STATE);
        }
        sound.fitTo(camp.stuff);
        trial.takeFrom(camp);
        for (int n = 0; n <= MOST_NIGHTS; n++) {
            if (n > 0) {
                trial.passNight();
            }
            if (isAsWritten(trial, sheet)) {
                return n;
            }
        }
        return finding(NONE);
    }

    private boolean isAsWritten(Camp there, Sheet sheet) {
        int n = Math.min(sheet.size, there.dishCount);
        for (int d = 0; d < n; d++) {
            if (sheet.numbers[d] != peasAt(there, there.dishes[d])) {
                return false;
            }
        }
        return true;
    }

    private static boolean isSheet(int s) {
        return isIn(s, 0, SHEETS - 1);
    }

    // ---- images

    public int image() {
        kept.takeFrom(camp);
        keeps = true;
        return 1;
    }

    public int undo() {
        if (!keeps) {
            return finding(NONE);
        }
        camp.takeFrom(kept);
        return camp.galleryCount;
    }

    public int tear() {
        int had = keeps ? 1 : 0;
        keeps = false;
        return had;
    }

    public int count(int what) {
        switch (what) {
            case 0:
                return camp.galleryCount;
            case 1:
                return camp.dishCount;
            case 2:
                return Long.bitCount(camp.wall);
            case 3:
                return text.length;
            case 4:
                return camp.ounces;
            case 5:
                return camp.mouths;
            case 6:
                return camp.ration;
            default:
                return finding(BEYOND);
        }
    }

    public int status(int which) {
        if (!isIn(which, -1, FINDINGS - 1)) {
            return finding(BEYOND);
        }
        if (which >= 0) {
            return told[which];
        }
        int sum = 0;
        for (int i = 0; i < FINDINGS; i++) {
            sum += told[i];
        }
        return sum;
    }

    /** Counts a finding that an act is about to answer: an answer's value alone can't tell one. */
    private int finding(int which) {
        int place = BEYOND - which;
        if (isIn(place, 0, FINDINGS - 1)) {
            told[place]++;
        }
        return which;
    }

    private static boolean isIn(int v, int least, int most) {
        return v >= least && v <= most;
    }

    /** The cells and how they lie. */
    private static final class Grid {
        static final int COLUMNS = 8;
        static final int CELLS = 48;
        static final int WAYS = 4;
        static final int OUTSIDE = -1;
        static final int CLOSED = -1;
        /** Far above any sum of costs over 48 cells, and safe to add to. */
        static final int UNREACHED = 1000000;

        static boolean isCell(int cell) {
            return cell >= 0 && cell < CELLS;
        }

        static boolean isWay(int way) {
            return way >= 0 && way < WAYS;
        }

        static int beside(int cell, int way) {
            int column = cell % COLUMNS;
            switch (way) {
                case 0:
                    return cell >= COLUMNS ? cell - COLUMNS : OUTSIDE;
                case 1:
                    return column < COLUMNS - 1 ? cell + 1 : OUTSIDE;
                case 2:
                    return cell < CELLS - COLUMNS ? cell + COLUMNS : OUTSIDE;
                case 3:
                    return column > 0 ? cell - 1 : OUTSIDE;
                default:
                    return OUTSIDE;
            }
        }

        /** Rows and columns apart, together. */
        static int apart(int a, int b) {
            return Math.abs(a / COLUMNS - b / COLUMNS) + Math.abs(a % COLUMNS - b % COLUMNS);
        }

        /**
         * Fills sums with the least sum of the costs of the cells entered on the way from a source
         * to each cell; a CLOSED cell isn't entered.
         */
        static void spread(int source, int[] costs, int[] sums) {
            for (int cell = 0; cell < CELLS; cell++) {
                sums[cell] = UNREACHED;
            }
            sums[source] = 0;
            boolean changed = true;
            for (int round = 0; round < CELLS && changed; round++) {
                changed = false;
                for (int i = 0; i < CELLS; i++) {
                    // Sweeping to and fro settles ways that go against the numbers in few rounds.
                    int cell = round % 2 == 0 ? i : CELLS - 1 - i;
                    int sum = leastBeside(cell, sums) + costs[cell];
                    if (costs[cell] != CLOSED && sum < sums[cell]) {
                        sums[cell] = sum;
                        changed = true;
                    }
                }
            }
        }

        private static int leastBeside(int cell, int[] sums) {
            int least = UNREACHED;
            for (int way = 0; way < WAYS; way++) {
                int next = beside(cell, way);
                if (next != OUTSIDE && sums[next] < least) {
                    least = sums[next];
                }
            }
            return least;
        }
    }

    /** The kinds of galleries, and what they do in each stuff. */
    private static final class Kinds {
        static final int PROPPED = 1;
        static final int MINE = 3;
        static final int DEEP = 5;
        static final int COUNT = 6;
        private static final int STUFFS = 4;
        private static final int TOP = -1;
        private static final int[] ABOVE = {-1, 0, 0, 1, 2, 3};
        /** By kind, then clay, sand, rock; water has no time, and is never asked for. */
        private static final int[] TIMES = {
            1, 2, 4, 0,
            2, 3, 5, 0,
            1, 1, 2, 0,
            2, 3, 5, 0,
            1, 1, 2, 0,
            2, 3, 3, 0};
        private static final int[] LOUDS = {
            12, 8, 20, 0,
            10, 6, 18, 0,
            6, 4, 10, 0,
            5, 3, 9, 0,
            18, 12, 30, 0,
            5, 3, 9, 0};

        static boolean isKind(int kind) {
            return kind >= 0 && kind < COUNT;
        }

        static int time(int kind, int stuff, boolean walled) {
            // A DEEP one's time in rock stands for itself: the wall adds nothing to it.
            boolean slowed = kind == MINE || kind == DEEP && stuff != Camp.ROCK;
            return TIMES[kind * STUFFS + stuff] + (walled && slowed ? 1 : 0);
        }

        static int loud(int kind, int stuff) {
            return LOUDS[kind * STUFFS + stuff];
        }

        static boolean firm(int kind, int stuff) {
            return stuff != Camp.SAND || isUnder(kind, PROPPED);
        }

        /** Whether a kind is another one, or under it. */
        static boolean isUnder(int kind, int other) {
            int k = kind;
            for (int steps = 0; steps < COUNT && k != TOP; steps++) {
                if (k == other) {
                    return true;
                }
                k = ABOVE[k];
            }
            return false;
        }
    }

    private static final class Gallery {
        static final int THEIRS = 0;
        static final int OURS = 1;

        int kind;
        int side;
        int head;
        int way;
        int done;
        boolean lost;

        void takeFrom(Gallery other) {
            kind = other.kind;
            side = other.side;
            head = other.head;
            way = other.way;
            done = other.done;
            lost = other.lost;
        }

        /** Whether it is of a side and not lost. */
        boolean isLeftOf(int asked) {
            return side == asked && !lost;
        }
    }

    /** All that an image keeps: ground, wall, galleries, nights, dishes and bread. */
    private static final class Camp {
        static final int CLAY = 0;
        static final int SAND = 1;
        static final int ROCK = 2;
        static final int WATER = 3;
        /** No stuff, but what a text may lay as it lays stuff. */
        static final int WALL = 4;
        static final int MOST_GALLERIES = 10;
        static final int MOST_DISHES = 9;
        static final int MOST_OUNCES = 999999;
        static final int MOST_MOUTHS = 999;
        static final int MOST_RATION = 99;
        static final int MOST_DAYS = 999;
        private static final int LAST_NIGHT = 999;
        private static final int DAYS_OF_A_RATION = 5;

        final int[] stuff = new int[Grid.CELLS];
        long wall = 0;
        final Gallery[] galleries = new Gallery[MOST_GALLERIES];
        int galleryCount = 0;
        final int[] dishes = new int[MOST_DISHES];
        int dishCount = 0;
        int night = 0;
        int met = 0;
        int ounces = 0;
        int mouths = 10;
        int ration = 16;

        Camp() {
            for (int i = 0; i < MOST_GALLERIES; i++) {
                galleries[i] = new Gallery();
            }
        }

        void takeFrom(Camp other) {
            System.arraycopy(other.stuff, 0, stuff, 0, Grid.CELLS);
            wall = other.wall;
            galleryCount = other.galleryCount;
            for (int i = 0; i < galleryCount; i++) {
                galleries[i].takeFrom(other.galleries[i]);
            }
            System.arraycopy(other.dishes, 0, dishes, 0, MOST_DISHES);
            dishCount = other.dishCount;
            night = other.night;
            met = other.met;
            ounces = other.ounces;
            mouths = other.mouths;
            ration = other.ration;
        }

        boolean isWalled(int cell) {
            return (wall >>> cell & 1) == 1;
        }

        /** Cells from one to another become a stuff, or come to the wall. */
        void lay(int what, int from, int to) {
            for (int cell = from; cell <= to; cell++) {
                if (what == WALL) {
                    wall |= 1L << cell;
                } else {
                    stuff[cell] = what;
                }
            }
        }

        boolean hasGallery(int gallery) {
            return gallery >= 0 && gallery < galleryCount;
        }

        boolean hasRoomForGallery() {
            return galleryCount < MOST_GALLERIES;
        }

        int addGallery(int kind, int side, int cell, int way) {
            Gallery g = galleries[galleryCount];
            g.kind = kind;
            g.side = side;
            g.head = cell;
            g.way = way;
            g.done = 0;
            g.lost = false;
            galleryCount++;
            return galleryCount - 1;
        }

        boolean hasDish(int dish) {
            return dish >= 0 && dish < dishCount;
        }

        boolean hasRoomForDish() {
            return dishCount < MOST_DISHES;
        }

        int addDish(int cell) {
            dishes[dishCount] = cell;
            dishCount++;
            return dishCount - 1;
        }

        int headsAt(int cell) {
            int heads = 0;
            for (int i = 0; i < galleryCount; i++) {
                if (!galleries[i].lost && galleries[i].head == cell) {
                    heads++;
                }
            }
            return heads;
        }

        int galleriesLeft(int side) {
            int left = 0;
            for (int i = 0; i < galleryCount; i++) {
                if (galleries[i].isLeftOf(side)) {
                    left++;
                }
            }
            return left;
        }

        int timeFor(int kind, int cell) {
            return Kinds.time(kind, stuff[cell], isWalled(cell));
        }

        int loudIn(int kind, int cell) {
            return Kinds.loud(kind, stuff[cell]);
        }

        boolean isFirm(int kind, int cell) {
            return Kinds.firm(kind, stuff[cell]);
        }

        boolean canEnter(int kind, int cell) {
            return stuff[cell] != WATER && isFirm(kind, cell);
        }

        boolean hasNights(int n) {
            return night + n <= LAST_NIGHT;
        }

        /** A night goes: how many are lost by it. */
        int passNight() {
            int leftBefore = galleriesLeft(Gallery.THEIRS) + galleriesLeft(Gallery.OURS);
            for (int i = 0; i < galleryCount; i++) {
                if (!galleries[i].lost) {
                    dig(galleries[i]);
                }
            }
            for (int i = 0; i < galleryCount; i++) {
                if (galleries[i].isLeftOf(Gallery.THEIRS) && isMet(galleries[i].head)) {
                    galleries[i].lost = true;
                    met++;
                }
            }
            night++;
            return leftBefore - galleriesLeft(Gallery.THEIRS) - galleriesLeft(Gallery.OURS);
        }

        /** One night of digging by a gallery that isn't lost. */
        void dig(Gallery g) {
            int ahead = Grid.beside(g.head, g.way);
            if (ahead == Grid.OUTSIDE) {
                return;
            }
            if (stuff[ahead] == WATER) {
                g.lost = true;
                return;
            }
            g.done++;
            if (g.done >= timeFor(g.kind, ahead)) {
                g.head = ahead;
                g.done = 0;
                g.lost = !isFirm(g.kind, ahead);
            }
        }

        private boolean isMet(int head) {
            for (int i = 0; i < galleryCount; i++) {
                if (galleries[i].isLeftOf(Gallery.OURS)
                        && Grid.apart(galleries[i].head, head) <= 1) {
                    return true;
                }
            }
            return false;
        }

        /** The least of theirs, lost or not, whose head is below the wall; NEVER if there is none. */
        int firstBelowWall() {
            for (int i = 0; i < galleryCount; i++) {
                if (galleries[i].side == Gallery.THEIRS && isWalled(galleries[i].head)) {
                    return i;
                }
            }
            return NEVER;
        }

        /** The set of cells that powder reaches. */
        long reachOf(int at, int powder) {
            long reach = 0;
            for (int cell = 0; cell < Grid.CELLS; cell++) {
                int left = powder - 3 * Grid.apart(at, cell);
                if (left > (stuff[cell] == ROCK ? 4 : 0)) {
                    reach |= 1L << cell;
                }
            }
            return reach;
        }

        /** Blows a set of cells up: how many galleries are lost by it. */
        int blowUp(long reach) {
            wall &= ~reach;
            int lostOnes = 0;
            for (int i = 0; i < galleryCount; i++) {
                Gallery g = galleries[i];
                if (!g.lost && (reach >>> g.head & 1) == 1) {
                    g.lost = true;
                    lostOnes++;
                }
            }
            for (int cell = 0; cell < Grid.CELLS; cell++) {
                if (stuff[cell] == ROCK && (reach >>> cell & 1) == 1) {
                    stuff[cell] = CLAY;
                }
            }
            return lostOnes;
        }

        /** For how many days the bread lasts, with a ration at first. */
        int daysWith(int rationAtFirst) {
            int left = ounces;
            for (int day = 0; day < MOST_DAYS; day++) {
                int eaten = mouths * Math.max(1, rationAtFirst - day / DAYS_OF_A_RATION);
                if (eaten > left) {
                    return day;
                }
                left -= eaten;
            }
            return MOST_DAYS;
        }
    }

    /** How far sound goes: rows of FAR are kept for as long as the ground carries as it did. */
    private static final class Sound {
        private static final int[] CARRIES = {1, 2, 1, 4};

        private final int[] loses = new int[Grid.CELLS];
        private final int[][] rows = new int[Grid.CELLS][Grid.CELLS];
        private final boolean[] known = new boolean[Grid.CELLS];

        /** To be called ahead of rowTo, whenever the ground may have changed. */
        void fitTo(int[] stuff) {
            boolean same = true;
            for (int cell = 0; cell < Grid.CELLS; cell++) {
                int carries = CARRIES[stuff[cell]];
                if (loses[cell] != carries) {
                    loses[cell] = carries;
                    same = false;
                }
            }
            for (int cell = 0; cell < Grid.CELLS && !same; cell++) {
                known[cell] = false;
            }
        }

        /** FAR to a cell, from each; kept by where sound goes, as few dishes hear many heads. */
        int[] rowTo(int to) {
            int[] row = rows[to];
            if (!known[to]) {
                known[to] = true;
                Grid.spread(to, loses, row);
                // The way back enters the same cells, but this end instead of the other one.
                for (int from = 0; from < Grid.CELLS; from++) {
                    row[from] += loses[to] - loses[from];
                }
            }
            return row;
        }
    }

    private static final class Sheet {
        static final int MOST = 40;
        static final int IS_MISSING = 0;

        final long[] numbers = new long[MOST];
        int bits = IS_MISSING;
        int size = 0;

        static boolean isWidth(int bits) {
            return bits == 8 || bits == 16 || bits == 64;
        }

        boolean isMissing() {
            return bits == IS_MISSING;
        }

        void makeNew(int newBits, int n) {
            bits = newBits;
            size = newBits == IS_MISSING ? 0 : n;
            for (int i = 0; i < MOST; i++) {
                numbers[i] = 0;
            }
        }

        /** Numbers of 8 and 16 bits have a sign, as those of 64 do. */
        void put(int i, long v) {
            numbers[i] = bits == 8 ? (byte) v : bits == 16 ? (short) v : v;
        }

        /** Whether there are n numbers from one on; written so that no sum can wrap around. */
        boolean hasRun(int from, int n) {
            return from >= 0 && n >= 0 && from <= size && n <= size - from;
        }
    }

    /** The tape, and the reading of it as the text of a siege, token by token. */
    private static final class Text {
        private static final int MOST = 120;
        private static final int END = 0;
        private static final int WORD = 1;
        private static final int NUMBER = 2;
        private static final int SIGN = 3;
        private static final int NO_TOKEN = 4;
        private static final int MOST_NUMBER = 999999;
        private static final int GROUND_ITEMS = 5;
        private static final int OTHER = -1;

        private final byte[] tape = new byte[MOST];
        int length = 0;
        private int sort = END;
        private int place = 0;
        private int behind = 0;
        private int value = 0;

        boolean hasRoom(int n) {
            return length + n <= MOST;
        }

        void addByte(byte b) {
            if (length < MOST) {
                tape[length] = b;
                length++;
            }
        }

        int makeEmpty() {
            int had = length;
            length = 0;
            return had;
        }

        /**
         * Tells the items to a camp: how many, or -1 less the place of the fault (the camp may have
         * got some of the items then).
         */
        int tellTo(Camp camp) {
            behind = 0;
            next();
            int items = 0;
            // An item has a byte at least, so that the bound is never met.
            for (int i = 0; i <= MOST; i++) {
                if (!item(camp)) {
                    break;
                }
                items++;
                if (sort == END) {
                    return items;
                }
                if (sort != SIGN) {
                    break;
                }
                next();
            }
            return -1 - place;
        }

        // Each of the readers below begins with its first token as the one at hand. It answers
        // true with the token behind it at hand, or false with the token at hand that can't stand.

        private boolean item(Camp camp) {
            int what = groundItemAtHand();
            if (what != OTHER) {
                return groundItem(what, camp);
            }
            int kind = kindAtHand();
            if (kind != OTHER) {
                return galleryItem(kind, camp);
            }
            if (isWord("dish")) {
                return dishItem(camp);
            }
            return isWord("bread") && breadItem(camp);
        }

        private boolean groundItem(int what, Camp camp) {
            next();
            if (!isNumber(0, Grid.CELLS - 1)) {
                return false;
            }
            int last = value;
            camp.lay(what, last, last);
            next();
            for (int i = 0; i < Grid.CELLS && sort == NUMBER; i++) {
                if (!isNumber(last + 1, Grid.CELLS - 1)) {
                    return false;
                }
                last = value;
                camp.lay(what, last, last);
                next();
            }
            if (!isWord("to")) {
                return true;
            }
            next();
            if (!isNumber(last + 1, Grid.CELLS - 1)) {
                return false;
            }
            camp.lay(what, last + 1, value);
            next();
            return true;
        }

        private boolean galleryItem(int kind, Camp camp) {
            if (!camp.hasRoomForGallery()) {
                return false;
            }
            next();
            int side = isWord("theirs") ? Gallery.THEIRS : Gallery.OURS;
            if (side == Gallery.OURS && !isWord("ours")) {
                return false;
            }
            next();
            if (!isWordThenNumber("at", 0, Grid.CELLS - 1)) {
                return false;
            }
            int cell = value;
            next();
            if (!isWordThenNumber("way", 0, Grid.WAYS - 1)) {
                return false;
            }
            camp.addGallery(kind, side, cell, value);
            next();
            return true;
        }

        private boolean dishItem(Camp camp) {
            if (!camp.hasRoomForDish()) {
                return false;
            }
            next();
            if (!isNumber(0, Grid.CELLS - 1)) {
                return false;
            }
            camp.addDish(value);
            next();
            return true;
        }

        private boolean breadItem(Camp camp) {
            next();
            if (!isNumber(0, Camp.MOST_OUNCES)) {
                return false;
            }
            camp.ounces = value;
            next();
            if (isWord("mouths")) {
                if (!isWordThenNumber("mouths", 1, Camp.MOST_MOUTHS)) {
                    return false;
                }
                camp.mouths = value;
                next();
            }
            if (isWord("ration")) {
                if (!isWordThenNumber("ration", 1, Camp.MOST_RATION)) {
                    return false;
                }
                camp.ration = value;
                next();
            }
            return true;
        }

        /** Whether that word is at hand, and a number in that range behind it, which is at hand then. */
        private boolean isWordThenNumber(String word, int least, int most) {
            if (!isWord(word)) {
                return false;
            }
            next();
            return isNumber(least, most);
        }

        private boolean isNumber(int least, int most) {
            return sort == NUMBER && value >= least && value <= most;
        }

        private boolean isWord(String word) {
            if (sort != WORD || behind - place != word.length()) {
                return false;
            }
            for (int i = 0; i < word.length(); i++) {
                if (tape[place + i] != word.charAt(i)) {
                    return false;
                }
            }
            return true;
        }

        private int groundItemAtHand() {
            for (int what = 0; what < GROUND_ITEMS; what++) {
                if (isWord(groundWord(what))) {
                    return what;
                }
            }
            return OTHER;
        }

        private int kindAtHand() {
            for (int kind = 0; kind < Kinds.COUNT; kind++) {
                if (isWord(kindWord(kind))) {
                    return kind;
                }
            }
            return OTHER;
        }

        private static String groundWord(int what) {
            switch (what) {
                case Camp.CLAY:
                    return "clay";
                case Camp.SAND:
                    return "sand";
                case Camp.ROCK:
                    return "rock";
                case Camp.WATER:
                    return "water";
                default:
                    return "wall";
            }
        }

        private static String kindWord(int kind) {
            switch (kind) {
                case 0:
                    return "gallery";
                case 1:
                    return "propped";
                case 2:
                    return "sap";
                case 3:
                    return "mine";
                case 4:
                    return "feint";
                default:
                    return "deep";
            }
        }

        /** The token behind the one at hand comes to hand. */
        private void next() {
            int at = behind;
            while (at < length && tape[at] == ' ') {
                at++;
            }
            place = at;
            sort = at < length ? sortOf(tape[at]) : END;
            value = 0;
            if (sort != END) {
                at++;
            }
            if (sort == WORD || sort == NUMBER) {
                while (at < length && sortOf(tape[at]) == sort) {
                    at++;
                }
            }
            behind = at;
            if (sort == NUMBER) {
                value = numberBetween(place, behind);
            }
        }

        private static int sortOf(byte b) {
            if (b >= 'a' && b <= 'z') {
                return WORD;
            }
            if (b >= '0' && b <= '9') {
                return NUMBER;
            }
            return b == ';' ? SIGN : NO_TOKEN;
        }

        /** A number that is too great stays one above the greatest, where no range takes it. */
        private int numberBetween(int from, int to) {
            int number = 0;
            for (int i = from; i < to; i++) {
                number = Math.min(MOST_NUMBER + 1, number * 10 + tape[i] - '0');
            }
            return number;
        }
    }
}
