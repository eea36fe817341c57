/** Promises 27 to 32: falls, blow, mine, bread, lasts, ration. */
public final class PowderBreadTest {
    private static final Check check = new Check();

    public static void main(String[] args) {
        falls();
        blow();
        mine();
        bread();
        lasts();
        ration();
        check.end();
    }

    private static PeasDrum walled() {
        PeasDrum x = new PeasDrum();
        for (int cell = 0; cell < 48; cell++) {
            x.wall(cell, true);
        }
        return x;
    }

    private static void falls() {
        PeasDrum x = walled();
        int[] inner = {1, 1, 1, 5, 5, 5, 13, 13, 13, 24, 24, 24};
        for (int powder = 1; powder <= inner.length; powder++) {
            check.due("27: falls(27, " + powder + ")", x.falls(27, powder), inner[powder - 1]);
        }
        check.due("27: in the corner", x.falls(0, 4), 3);
        check.due("27: falls(0, 30)", x.falls(0, 30), 42);
        check.due("27: nothing changes", x.count(2), 48);
        x.ground(28, 2);
        check.due("27: ROCK beside, 4 - 3", x.falls(27, 4), 4);
        check.due("27: ROCK beside, 7 - 3", x.falls(27, 7), 12);
        check.due("27: ROCK beside, 8 - 3", x.falls(27, 8), 13);
        x.ground(27, 2);
        check.due("27: in ROCK, 4", x.falls(27, 4), 3);
        check.due("27: in ROCK, 5", x.falls(27, 5), 4);
        x.wall(26, false);
        check.due("27: without one", x.falls(27, 5), 3);
        check.due("27: falls(48, 1)", x.falls(48, 1), Check.BEYOND);
        check.due("27: falls(-1, 1)", x.falls(-1, 1), Check.BEYOND);
        check.due("27: falls(0, 0)", x.falls(0, 0), Check.BEYOND);
        check.due("27: falls(0, 31)", x.falls(0, 31), Check.BEYOND);
    }

    private static void blow() {
        PeasDrum x = walled();
        x.ground(27, 2);
        x.ground(28, 2);
        x.ground(29, 3);
        x.ground(35, 1);
        x.gallery(0, 0, 27, 0);
        x.gallery(0, 1, 28, 0);
        x.gallery(0, 1, 26, 3);
        x.gallery(0, 0, 26, 3);
        x.gallery(0, 0, 0, 3);
        check.due("28: blow(48, 5)", x.blow(48, 5), Check.BEYOND);
        check.due("28: blow(-1, 5)", x.blow(-1, 5), Check.BEYOND);
        check.due("28: blow(27, 0)", x.blow(27, 0), Check.BEYOND);
        check.due("28: blow(27, 31)", x.blow(27, 31), Check.BEYOND);
        check.due("28: unchanged", x.count(2), 48);
        check.due("28: blow(27, 5)", x.blow(27, 5), 3);
        check.due("28: ROCK became CLAY", x.cellOf(27, 0), 0);
        check.due("28: ROCK not reached", x.cellOf(28, 0), 2);
        check.due("28: WALL fell", x.walls(), ((1L << 48) - 1) & ~Check.set(27, 26, 19, 35));
        check.due("28: SAND stays", x.cellOf(35, 0), 1);
        check.due("28: LOST", x.of(0, 5) + x.of(2, 5) + x.of(3, 5), 3);
        check.due("28: not LOST", x.of(1, 5) + x.of(4, 5), 0);
        check.due("28: none is MET by it", x.now(3), 0);
        check.due("28: only those that weren't LOST", x.blow(27, 8), 1);
        check.due("28: WATER stays", x.cellOf(29, 0), 3);
        check.due("28: ROCK became CLAY", x.cellOf(28, 0), 0);
        check.due("28: nothing left to fall", x.falls(27, 8), 0);
    }

    private static void mine() {
        PeasDrum x = new PeasDrum();
        check.due("29: no WALL", x.mine(30), Check.NONE);
        x.wall(0, true);
        check.due("29: at 0", x.mine(1), 0);
        x.wall(0, false);
        x.wall(47, true);
        check.due("29: at 47", x.mine(1), 47);
        x.wall(47, false);
        x.wall(20, true);
        check.due("29: just there", x.mine(1), 20);
        check.due("29: of several the least", x.mine(4), 12);
        x.ground(12, 3);
        check.due("29: not WATER", x.mine(4), 19);
        x.wall(28, true);
        check.due("29: the most", x.mine(4), 20);
        x.ground(20, 2);
        x.ground(28, 2);
        check.due("29: ROCK is too firm", x.mine(4), Check.NONE);
        check.due("29: ROCK", x.mine(5), 20);
        check.due("29: ROCK", x.mine(8), 20);
        check.due("29: mine(0)", x.mine(0), Check.BEYOND);
        check.due("29: mine(31)", x.mine(31), Check.BEYOND);
        check.due("29: nothing changes", x.count(2), 2);
    }

    private static void bread() {
        PeasDrum x = new PeasDrum();
        check.due("30: bread(0, 999999)", x.bread(0, 999999), 0);
        check.due("30: bread(0, 0)", x.bread(0, 0), 999999);
        check.due("30: bread(1, 999)", x.bread(1, 999), 10);
        check.due("30: bread(1, 1)", x.bread(1, 1), 999);
        check.due("30: bread(2, 99)", x.bread(2, 99), 16);
        check.due("30: bread(2, 1)", x.bread(2, 1), 99);
        int[][] wrong = {{-1, 5}, {3, 5}, {0, -1}, {0, 1000000}, {1, 0}, {1, 1000}, {2, 0}, {2, 100}};
        for (int[] w : wrong) {
            check.due("30: bread(" + w[0] + ", " + w[1] + ")", x.bread(w[0], w[1]), Check.BEYOND);
        }
        check.due("30: unchanged", x.count(4), 0);
        check.due("30: unchanged", x.count(5), 1);
        check.due("30: unchanged", x.count(6), 1);
        check.due("30: status(0)", x.status(0), wrong.length);
    }

    private static PeasDrum fed(int ounces, int mouths, int ration) {
        PeasDrum x = new PeasDrum();
        x.bread(0, ounces);
        x.bread(1, mouths);
        x.bread(2, ration);
        return x;
    }

    private static void lasts() {
        check.due("31: none", fed(0, 1, 1).lasts(), 0);
        check.due("31: just a day", fed(160, 10, 16).lasts(), 1);
        check.due("31: not quite a day", fed(159, 10, 16).lasts(), 0);
        check.due("31: five days", fed(15, 1, 3).lasts(), 5);
        check.due("31: less behind five", fed(17, 1, 3).lasts(), 6);
        check.due("31: ten days", fed(25, 1, 3).lasts(), 10);
        check.due("31: 1 at least", fed(40, 1, 3).lasts(), 25);
        check.due("31: 998", fed(998, 1, 1).lasts(), 998);
        check.due("31: 999", fed(999, 1, 1).lasts(), 999);
        check.due("31: 999 at most", fed(1000, 1, 1).lasts(), 999);
        PeasDrum x = fed(3000, 10, 16);
        check.due("31: 3000 ounces", x.lasts(), 20);
        check.due("31: nothing changes", x.count(4), 3000);
        check.due("31: nothing changes", x.count(6), 16);
    }

    private static void ration() {
        PeasDrum x = fed(0, 1, 50);
        check.due("32: no bread", x.ration(1), Check.NONE);
        x.bread(0, 98);
        check.due("32: a day", x.ration(1), 98);
        x.bread(0, 99);
        check.due("32: a day", x.ration(1), 99);
        x.bread(0, 999999);
        check.due("32: 99 at most", x.ration(999), 99);
        x.bread(0, 998);
        check.due("32: a day too few", x.ration(999), Check.NONE);
        x.bread(0, 999);
        check.due("32: just so", x.ration(999), 1);
        x.bread(0, 16);
        check.due("32: six days by 3, 2", x.ration(6), 2);
        x.bread(0, 17);
        check.due("32: six days by 3, 2", x.ration(6), 3);
        check.due("32: RATION stays", x.count(6), 50);
        check.due("32: ration(0)", x.ration(0), Check.BEYOND);
        check.due("32: ration(1000)", x.ration(1000), Check.BEYOND);
        check.due("32: ration(-1)", x.ration(-1), Check.BEYOND);
        for (int ounces = 7; ounces < 999999; ounces = ounces * 3 + 1) {
            for (int n = 1; n < 999; n += 83) {
                asByTrying(fed(ounces, 3, 7), n, ounces);
            }
        }
    }

    private static void asByTrying(PeasDrum x, int n, int ounces) {
        int greatest = Check.NONE;
        for (int tried = 1; tried <= 99; tried++) {
            x.bread(2, tried);
            if (x.lasts() >= n) {
                greatest = tried;
            }
        }
        check.due("32: ration(" + n + ") of " + ounces, x.ration(n), greatest);
    }
}
