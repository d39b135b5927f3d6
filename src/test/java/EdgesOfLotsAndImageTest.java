/** Promises 36 to 39: a test for each sentence that names an edge or a refusal. */
public final class EdgesOfLotsAndImageTest {
    private static final String STILL = "falls 0;blows 0;rots 0;";

    public static void main(String[] args) throws ReflectiveOperationException {
        Due.everySentence(EdgesOfLotsAndImageTest.class);
    }

    /** "BAD": SEED (0 .. 99999). */
    private static void promise36BadSeed() {
        Refusal.is(-2, "drawn(-1, 0, 0)", "drawn(100000, 0, 0)", "drawn(MIN, 0, 0)", "drawn(MAX, 0, 0)");
    }

    /** "BAD": n. */
    private static void promise36BadN() {
        Refusal.is(-2, "drawn(0, -1, 0)", "drawn(0, 15, 0)", "drawn(0, MIN, 0)", "drawn(0, MAX, 0)");
    }

    /** "BAD": what. */
    private static void promise36BadWhat() {
        Refusal.is(-2, "drawn(0, 0, -1)", "drawn(99999, 14, 9)", "drawn(0, 0, MIN)", "drawn(0, 0, MAX)");
    }

    /** "what sum() tells": each what, behind none as without lots. */
    private static void promise36BehindNone() {
        LeavesBeforeWind x = Refusal.twin("");
        for (int what = 0; what < 9; what++) {
            Due.is("the first SEED", x.drawn(0, 0, what), x.sum(0, what));
            Due.is("the last SEED", x.drawn(99999, 0, what), x.sum(0, what));
        }
    }

    /** "DRAWN": the WAY and STRONG told of the DAYS don't matter, and stay; FROST and RAIN do. */
    private static void promise36ToldDaysStay() {
        LeavesBeforeWind x = Refusal.twin(""), y = Refusal.twin("");
        for (int d = 0; d < 14; d++) {
            y.sky(d, 0, 3 - x.skyTold(d, 0));
            y.sky(d, 1, 9 - x.skyTold(d, 1));
        }
        for (int what = 0; what < 9; what++) Due.is("what " + what, x.drawn(77, 14, what), y.drawn(77, 14, what));
        for (int d = 0; d < 14; d++) Due.is("STRONG", x.skyTold(d, 1), 9 - y.skyTold(d, 1));
        int hang = x.drawn(77, 14, 1);
        x.sky(2, 2, 0);
        Due.is("more HANG without FROST", x.drawn(77, 14, 1) > hang ? 1 : 0, 1);
        x.force(1);
        int rotten = x.drawn(77, 14, 2);
        x.sky(5, 3, 0);
        x.sky(9, 3, 0);
        Due.is("fewer are ROTTEN without RAIN", x.drawn(77, 14, 2) < rotten ? 1 : 0, 1);
    }

    /** "NO": SEED. */
    private static void promise37NoSuchSeed() {
        Refusal.is(Refusal.NO, "odds(-1, 1, 0, 0)", "odds(100000, 1, 0, 0)", "odds(MIN, 1, 0, 0)", "odds(MAX, 1, 0, 0)");
    }

    /** "NO": "so many (1 .. 10) seeds". */
    private static void promise37NoSuchSeeds() {
        Refusal.is(Refusal.NO, "odds(0, 0, 0, 0)", "odds(0, 11, 0, 0)", "odds(0, -1, 0, 0)", "odds(0, MIN, 0, 0)", "odds(0, MAX, 0, 0)");
    }

    /** "NO": "most (0 .. 9999)". */
    private static void promise37NoSuchMost() {
        Refusal.is(Refusal.NO, "odds(0, 1, -1, 0)", "odds(0, 1, 10000, 0)", "odds(0, 1, MIN, 0)", "odds(0, 1, MAX, 0)");
    }

    /** "NO": part. */
    private static void promise37NoSuchPart() {
        Refusal.is(Refusal.NO, "odds(0, 1, 0, -1)", "odds(0, 1, 0, 2)", "odds(0, 1, 0, MIN)", "odds(0, 1, 0, MAX)");
    }

    /** "no more than most lie": as many do, one more don't; none at all. */
    private static void promise37NoMoreThanMost() {
        LeavesBeforeWind x = Due.under(STILL);
        for (int c = 0; c < 11; c++) x.strew(c, c < 10 ? 999 : 9);
        odds(x, 0, 1, 9999, 1, 1);
        odds(x, 0, 1, 9998, 0, 1);
        x.strew(0, 998);
        odds(x, 99999, 10, 9998, 1, 1);
        odds(x, 99999, 10, 9997, 0, 1);
        for (int c = 0; c < 11; c++) x.strew(c, 0);
        odds(x, 0, 10, 0, 1, 1);
        x.strew(35, 1);
        odds(x, 0, 10, 0, 0, 1);
    }

    private static void odds(LeavesBeforeWind x, int seed, int seeds, int most, int above, int below) {
        String call = "odds(" + seed + ", " + seeds + ", " + most + ", ";
        Due.is(call + "0)", x.odds(seed, seeds, most, 0), above);
        Due.is(call + "1)", x.odds(seed, seeds, most, 1), below);
    }

    /** "SEED and each 1 more (they may pass 99999)": reckoned here, of which none can be told by drawn(). */
    private static void promise37SeedsMayPassTheLast() {
        for (int seeds = 1; seeds < 11; seeds++) {
            LeavesBeforeWind x = Due.under("falls 0;blows strong;rots 0;");
            x.strew(0, 100);
            int[] lie = new int[seeds];
            for (int k = 0; k < seeds; k++) lie[k] = liesBehindLots(99999 + k);
            for (int k = 0; k < seeds; k++) {
                int fit = 0;
                for (int other : lie) fit += other <= lie[k] ? 1 : 0;
                int divisor = java.math.BigInteger.valueOf(fit).gcd(java.math.BigInteger.valueOf(seeds)).intValue();
                odds(x, 99999, seeds, lie[k], fit / divisor, seeds / divisor);
            }
        }
    }

    /** How many lie behind 14 DAYS of a seed's winds, where 100 lay in CELL 0, and strong of a hundred blow. */
    private static int liesBehindLots(int seed) {
        LeavesBeforeWind x = Due.under("falls 0;blows strong;rots 0;");
        x.strew(0, 100);
        long lot = seed + 1;
        for (int d = 0; d < 14; d++) {
            lot = lot * 48271 % 2147483647;
            x.sky(d, 0, (int) (lot % 4));
            x.sky(d, 1, (int) (lot / 4 % 10));
        }
        return x.sum(14, 0);
    }

    /** "in lowest terms" (part as of share()): none is 0 to 1, whatever the seeds. */
    private static void promise37LowestTermsOfNone() {
        LeavesBeforeWind x = Due.under(STILL);
        x.strew(0, 1);
        for (int seeds = 1; seeds < 11; seeds++) {
            odds(x, 5, seeds, 0, 0, 1);
            odds(x, 5, seeds, 1, 1, 1);
        }
    }

    /** "AN IMAGE is kept: how many TREES": none, four; a later one instead of an earlier. */
    private static void promise38NoneAndFour() {
        LeavesBeforeWind x = new LeavesBeforeWind();
        for (int t = 0; t < 5; t++) {
            Due.is("image", x.image(), t);
            Due.is("back", x.back(), t);
            x.tree(0, 0, t);
        }
        Due.is("the fifth came not", x.back(), 4);
    }

    /** "AN IMAGE keeps all that is told": it does not change with what is told then, nor by back(). */
    private static void promise38DoesNotChange() {
        LeavesBeforeWind x = new LeavesBeforeWind();
        x.strew(35, 999);
        x.image();
        for (int round = 0; round < 3; round++) {
            x.strew(35, round);
            x.lay(35, 5, 99);
            for (int what = 0; what < 4; what++) x.sky(13, what, 1);
            x.rake(16383);
            x.heap(1L << 35);
            Due.is("back", x.back(), 0);
            Due.is("LEAVES", x.cellTold(35, 2), 999);
            Due.is("KIND", x.cellTold(35, 0), 0);
            Due.is("MORE", x.cellTold(35, 1), 0);
            for (int what = 0; what < 4; what++) Due.is("DAY 13's " + what, x.skyTold(13, what), 0);
            Due.is("RAKING", x.count(1), 0);
            Due.is("HEAPS", x.heap(2), 1);
        }
    }

    /** "STATE: there is none." At first; also behind fell() of a TREE that it has. */
    private static void promise39None() {
        Due.is("none yet", new LeavesBeforeWind().back(), -3);
        Refusal.behind("fell(); fell()", -3, "back()");
        Refusal.behind("fell(); fell(); tree(21, 5, 40); tree(3, 9, 900)", -3, "back()");
    }

    /** "TREES that came since are none: how many there are": from four to none. */
    private static void promise39TreesThatCameSince() {
        for (int kept = 0; kept < 5; kept++) {
            LeavesBeforeWind x = new LeavesBeforeWind();
            for (int t = 0; t < kept; t++) x.tree(t, 1, 10);
            x.image();
            for (int t = kept; t < 4; t++) x.tree(t, 2, 20);
            Due.is("how many", x.back(), kept);
            Due.is("count", x.count(0), kept);
            Due.is("HANG", x.sum(0, 1), 10 * kept);
            for (int t = 0; t < 4; t++) Due.is("TREE " + t, x.treeTold(t, 1), t < kept ? 1 : -5);
            if (kept < 4) Due.is("the next one's number", x.tree(0, 0, 0), kept);
        }
    }

    /** "All that it keeps is as in THE IMAGE", and what it does not keep stays: TEXTS, THE TAPE, SHEETS, at their most. */
    private static void promise39WhatItDoesNotKeep() {
        LeavesBeforeWind x = new LeavesBeforeWind();
        x.image();
        for (int t = 1; t < 6; t++) Due.text(x, "falls " + t + ";blows 0;rots 0;");
        Due.feed(x, " ".repeat(160));
        for (int s = 0; s < 4; s++) x.sheet(s, s % 3, 40);
        x.force(5);
        Due.is("back", x.back(), 0);
        Due.is("TEXTS", x.count(2), 6);
        Due.is("THE TAPE", x.count(4), 160);
        Due.is("THE LAW", x.count(3), 0);
        for (int s = 0; s < 4; s++) Due.is("SHEET", x.cell(s, 39, 1), 1);
    }
}
