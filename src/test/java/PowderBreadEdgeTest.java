/** Promises 27 to 32 at their edges. */
public final class PowderBreadEdgeTest {
    private static final Check check = new Check();
    private static final int[] CENTRES = {0, 7, 40, 47, 27, 20};
    private static final int ROCK = 2;

    public static void main(String[] args) {
        for (int stuff = 0; stuff < 4; stuff++) {
            fallsByEachPowder(stuff);
            blowByEachPowder(stuff);
        }
        fallsNone();
        blowLosesNoneOrTen();
        blowIsNotHeldBack();
        mineOfEachCell();
        mineNotInWater();
        mineOfMost();
        breadOfEach();
        lastsByDays();
        lastsAtMost();
        rationOfDays();
        rationAtMost();
        check.end();
    }

    private static PeasDrum walled(int stuff) {
        PeasDrum x = new PeasDrum();
        Check.siege(x, new String[] {"clay", "sand", "rock", "water"}[stuff] + " 0 to 47;wall 0 to 47");
        return x;
    }

    private static long reach(int from, int powder, int stuff) {
        long reach = 0;
        for (int cell = 0; cell < 48; cell++) {
            int apart = Math.abs(from / 8 - cell / 8) + Math.abs(from % 8 - cell % 8);
            boolean is = powder - 3 * apart > (stuff == ROCK ? 4 : 0);
            reach |= is ? 1L << cell : 0;
        }
        return reach;
    }

    private static void fallsByEachPowder(int stuff) {
        PeasDrum x = walled(stuff);
        for (int cell : CENTRES) {
            for (int powder = 1; powder <= 30; powder++) {
                check.due("27: falls(" + cell + ", " + powder + ") in " + stuff, x.falls(cell, powder),
                        Long.bitCount(reach(cell, powder, stuff)));
            }
        }
        check.due("27: nothing fell", x.count(2), 48);
    }

    private static void blowByEachPowder(int stuff) {
        for (int cell : CENTRES) {
            for (int powder = 1; powder <= 30; powder++) {
                String call = "28: blow(" + cell + ", " + powder + ") in " + stuff;
                long reach = reach(cell, powder, stuff);
                PeasDrum x = walled(stuff);
                x.gallery(0, 0, cell, 0);
                x.gallery(1, 1, 20, 0);
                x.gallery(2, 0, 47, 0);
                long lost = (reach >>> cell & 1) + (reach >>> 20 & 1) + (reach >>> 47 & 1);
                check.due(call, x.blow(cell, powder), lost);
                check.due(call + ", WALL", x.walls(), ~reach & 0xffffffffffffL);
                check.due(call + ", LOST", x.of(1, 5), reach >>> 20 & 1);
                for (int c = 0; c < 48; c++) {
                    boolean cleared = stuff == ROCK && (reach >>> c & 1) == 1;
                    check.due(call + ", STUFF of " + c, x.cellOf(c, 0), cleared ? 0 : stuff);
                }
            }
        }
    }

    private static void fallsNone() {
        PeasDrum x = new PeasDrum();
        check.due("27: no WALL", x.falls(27, 30), 0);
        x.wall(27, true);
        check.due("27: one", x.falls(27, 1), 1);
        check.due("27: 3 doesn't reach beside", x.falls(28, 3), 0);
        check.due("27: 4 does", x.falls(28, 4), 1);
        x.ground(27, ROCK);
        check.due("27: ROCK, 4", x.falls(27, 4), 0);
        check.due("27: ROCK, 5", x.falls(27, 5), 1);
        check.due("27: ROCK beside, 7", x.falls(28, 7), 0);
        check.due("27: ROCK beside, 8", x.falls(28, 8), 1);
        check.due("27: ROCK at the powder is nothing to others", x.falls(26, 8), 1);
        check.due("27: all", walled(0).falls(27, 30), 48);
        check.due("27: all but the farthest", walled(0).falls(0, 30), 48 - 6);
    }

    private static void blowLosesNoneOrTen() {
        PeasDrum x = new PeasDrum();
        check.due("28: none there", x.blow(27, 30), 0);
        for (int i = 0; i < 10; i++) {
            x.gallery(i % 6, i % 2, 24 + i % 8, 0);
        }
        check.due("28: none is reached", x.blow(47, 1), 0);
        check.due("28: ten", x.blow(27, 30), 10);
        check.due("28: none is left", x.blow(27, 30), 0);
        check.due("14: theirs, ours", x.now(1) + x.now(2), 0);
        PeasDrum y = new PeasDrum();
        y.gallery(1, 0, 27, 1);
        y.nights(1);
        y.blow(27, 1);
        int[] due = {1, 0, 27, 1, 1, 1};
        for (int what = 0; what < 6; what++) {
            check.due("28: only LOST, of(0, " + what + ")", y.of(0, what), due[what]);
        }
        check.due("28: no NIGHT goes", y.now(0), 1);
    }

    /** All is reached as it was ahead of it: ROCK that becomes CLAY is no CLAY yet. */
    private static void blowIsNotHeldBack() {
        PeasDrum x = new PeasDrum();
        Check.siege(x, "rock 0 to 3;wall 0 to 3;sap ours at 0 way 0;sap ours at 1 way 0;sap theirs at 2 way 0");
        check.due("28: 5 reaches ROCK at 0 alone", x.blow(0, 5), 1);
        check.due("28: WALL", x.walls(), Check.set(1, 2, 3));
        check.due("28: STUFF", x.cellOf(0, 0) + 10 * x.cellOf(1, 0) + 100 * x.cellOf(2, 0), 220);
        check.due("28: then 1 is enough there", x.falls(0, 1), 0);
        check.due("28: 8 reaches 1", x.blow(0, 8), 1);
        check.due("28: WALL", x.walls(), Check.set(2, 3));
        check.due("28: 10 reaches not ROCK at 2", x.blow(0, 10), 0);
        check.due("28: 11 does", x.blow(0, 11), 1);
        check.due("28: WALL", x.walls(), Check.set(3));
    }

    private static void mineOfEachCell() {
        for (int cell = 0; cell < 48; cell++) {
            PeasDrum x = new PeasDrum();
            x.wall(cell, true);
            check.due("29: just at " + cell, x.mine(1), cell);
            check.due("29: at " + cell + ", 3", x.mine(3), cell);
            int above = cell >= 8 ? cell - 8 : cell % 8 > 0 ? cell - 1 : cell;
            check.due("29: at " + cell + ", 4", x.mine(4), above);
        }
        check.due("29: all of it, the first that reaches all", walled(0).mine(30), 3);
        check.due("29: all of it, by 1", walled(0).mine(1), 0);
        check.due("29: all ROCK, by 4", walled(ROCK).mine(4), Check.NONE);
        check.due("29: all ROCK, by 5", walled(ROCK).mine(5), 0);
    }

    private static void mineNotInWater() {
        PeasDrum x = walled(3);
        check.due("29: all WATER", x.mine(30), Check.NONE);
        check.due("29: though it would fall", x.falls(27, 30), 48);
        x.ground(47, 0);
        check.due("29: all but one WATER", x.mine(1), 47);
        check.due("29: all but one WATER", x.mine(30), 47);
        x.ground(0, 1);
        check.due("29: SAND", x.mine(1), 0);
        x.ground(0, ROCK);
        check.due("29: ROCK, too firm by 4, but what is BESIDE falls", x.mine(4), 47);
        x.ground(47, ROCK);
        check.due("29: the first", x.mine(4), 0);
    }

    private static void mineOfMost() {
        PeasDrum x = new PeasDrum();
        Check.siege(x, "wall 0 40 41 47");
        check.due("29: two of it", x.mine(4), 40);
        check.due("29: one of it, the least", x.mine(3), 0);
        x.wall(40, false);
        check.due("29: one of it, the least", x.mine(4), 0);
        check.due("29: nothing fell", x.count(2), 3);
    }

    private static void breadOfEach() {
        int[][] ranges = {{0, 999999, 0}, {1, 999, 10}, {1, 99, 16}};
        for (int what = 0; what < 3; what++) {
            PeasDrum x = new PeasDrum();
            int[] r = ranges[what];
            check.due("30: at first", x.bread(what, r[1]), r[2]);
            check.due("30: count", x.count(4 + what), r[1]);
            check.due("30: the least", x.bread(what, r[0]), r[1]);
            check.due("30: too little", x.bread(what, r[0] - 1), Check.BEYOND);
            check.due("30: too much", x.bread(what, r[1] + 1), Check.BEYOND);
            check.due("30: it stays", x.bread(what, r[0]), r[0]);
            for (int other = 0; other < 3; other++) {
                check.due("30: the others stay", x.count(4 + other), other == what ? r[0] : ranges[other][2]);
            }
        }
    }

    private static PeasDrum fed(int ounces, int mouths, int ration) {
        PeasDrum x = new PeasDrum();
        x.bread(0, ounces);
        x.bread(1, mouths);
        x.bread(2, ration);
        return x;
    }

    /** The last ounce of each day, and one less; RATION falls behind the 5th, the 10th, .. */
    private static void lastsByDays() {
        for (int mouths : new int[] {1, 10, 999}) {
            for (int ration : new int[] {1, 2, 3, 16}) {
                int sum = 0;
                for (int day = 1; day <= 30 && sum <= 999999; day++) {
                    sum += mouths * Math.max(1, ration - (day - 1) / 5);
                    String of = "31: " + mouths + " by " + ration + ", day " + day;
                    if (sum <= 999999) {
                        check.due(of, fed(sum, mouths, ration).lasts(), day);
                        check.due(of + ", an ounce less", fed(sum - 1, mouths, ration).lasts(), day - 1);
                    }
                }
            }
        }
        check.due("31: most is eaten, a day", fed(98901, 999, 99).lasts(), 1);
        check.due("31: most is eaten, none", fed(98900, 999, 99).lasts(), 0);
        check.due("31: most is eaten, ten days", fed(999999, 999, 99).lasts(), 10);
        check.due("31: no bread", fed(0, 1, 1).lasts(), 0);
    }

    private static void lastsAtMost() {
        check.due("31: 998", fed(998, 1, 1).lasts(), 998);
        check.due("31: 999", fed(999, 1, 1).lasts(), 999);
        check.due("31: no more than 999", fed(1000, 1, 1).lasts(), 999);
        check.due("31: no more than 999", fed(999999, 1, 99).lasts(), 999);
        check.due("31: no more than 999", fed(999999, 1000 - 1, 1).lasts(), 999);
        check.due("31: 998 of many", fed(998 * 999, 999, 1).lasts(), 998);
        PeasDrum x = fed(999, 1, 1);
        check.due("31: again", x.lasts() + x.lasts(), 2 * 999);
        check.due("31: nothing is eaten by it", x.count(4), 999);
    }

    private static void rationOfDays() {
        for (int r = 1; r <= 99; r += 7) {
            check.due("32: a day by " + r, fed(r, 1, 5).ration(1), r);
            check.due("32: five days by " + r, fed(5 * r, 1, 5).ration(5), r);
            check.due("32: five days, an ounce less", fed(5 * r - 1, 1, 5).ration(5), r > 1 ? r - 1 : Check.NONE);
            int six = 5 * r + Math.max(1, r - 1);
            check.due("32: six days by " + r, fed(six, 1, 5).ration(6), r);
            check.due("32: six days, an ounce less", fed(six - 1, 1, 5).ration(6), r > 1 ? r - 1 : Check.NONE);
        }
        check.due("32: RATION itself is nothing to it", fed(593, 1, 1).ration(6), fed(593, 1, 99).ration(6));
        check.due("32: by 999 mouths", fed(98901, 999, 1).ration(1), 99);
        check.due("32: by 999 mouths", fed(98900, 999, 1).ration(1), 98);
        check.due("32: by 999 mouths", fed(999, 999, 1).ration(1), 1);
        check.due("32: by 999 mouths", fed(998, 999, 1).ration(1), Check.NONE);
    }

    private static void rationAtMost() {
        check.due("32: 99 at most", fed(999999, 1, 1).ration(1), 99);
        check.due("32: 99 at most", fed(999999, 1, 1).ration(999), 99);
        check.due("32: 99 at most", fed(593, 1, 1).ration(6), 99);
        check.due("32: 98", fed(592, 1, 1).ration(6), 98);
        check.due("32: 999 days by 1", fed(999, 1, 1).ration(999), 1);
        check.due("32: 999 days by 1", fed(1003, 1, 1).ration(999), 1);
        check.due("32: 999 days by 2", fed(1004, 1, 1).ration(999), 2);
        check.due("32: not 999 days", fed(998, 1, 1).ration(999), Check.NONE);
        check.due("32: 998 days", fed(998, 1, 1).ration(998), 1);
        check.due("32: 999 days of many", fed(999 * 999, 999, 99).ration(999), 1);
        check.due("32: not of so many", fed(999 * 999 - 1, 999, 99).ration(999), Check.NONE);
        PeasDrum x = fed(500, 3, 7);
        x.ration(9);
        check.due("32: RATION stays", x.count(6), 7);
        check.due("32: OUNCES stay", x.count(4), 500);
    }
}
