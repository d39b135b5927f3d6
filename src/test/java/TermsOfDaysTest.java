/** The chapter "Terms", its second block: edges of a day, of what raking costs, of lots and of refusals. */
public final class TermsOfDaysTest {
    private static final String STILL = "falls 0;blows 0;rots 0;";

    public static void main(String[] args) throws ReflectiveOperationException {
        Due.everySentence(TermsOfDaysTest.class);
    }

    private static void lie(LeavesBeforeWind x, int n, int c, int dry, int wet) {
        Due.is("dry in " + c + " behind " + n, x.lie(n, c, 0), dry);
        Due.is("wet in " + c + " behind " + n, x.lie(n, c, 1), wet);
    }

    /** "first, if it RAINS, all dry leaves that lie are wet". */
    private static void termsRainWetsAll() {
        for (int many : new int[] {0, 1, 999}) {
            LeavesBeforeWind x = Due.under(STILL);
            x.strew(35, many);
            x.sky(0, 3, 1);
            x.sky(1, 3, 1);
            lie(x, 1, 35, 0, many);
            lie(x, 2, 35, 0, many);
        }
    }

    /** "else half (cut) of the wet ones in each CELL dry": of one none, of 3 one. */
    private static void termsHalfCutDries() {
        int[] wet = {1, 2, 3, 7, 999}, left = {1, 1, 2, 4, 500}, last = {1, 1, 1, 1, 1};
        for (int k = 0; k < 5; k++) {
            LeavesBeforeWind x = Due.under(STILL);
            x.strew(0, wet[k]);
            x.strew(1, 1);
            x.sky(0, 3, 1);
            lie(x, 2, 0, wet[k] - left[k], left[k]);
            lie(x, 2, 1, 0, 1);
            lie(x, 14, 0, wet[k] - last[k], last[k]);
        }
    }

    /** "of each TREE as many as falls says (no more than HANG) fall": one less than hang, as many, one more; none. */
    private static void termsNoMoreThanHang() {
        for (int hang : new int[] {0, 1, 6, 7, 8, 999}) {
            LeavesBeforeWind x = Due.under("falls 7;blows 0;rots 0;");
            x.tree(3, 0, hang);
            int fall = Math.min(7, hang);
            Due.is("HANG of " + hang, x.hang(1, 0), hang - fall);
            lie(x, 1, 3, fall, 0);
            Due.is("most fall", x.great(1), fall);
            Due.is("behind all DAYS", x.hang(14, 0), Math.max(0, hang - 14 * 7));
        }
    }

    /** "fall onto its CELL, wet, if it RAINS, else dry": behind the drying. */
    private static void termsFallWetOrDry() {
        LeavesBeforeWind x = Due.under("falls 4;blows 0;rots 0;");
        x.tree(35, 0, 999);
        x.sky(1, 3, 1);
        lie(x, 1, 35, 4, 0);
        lie(x, 2, 35, 0, 8);
        lie(x, 3, 35, 8, 4);
    }

    /** "as many by 100 (cut) as blows says": 0, 1, 99, 100 of a hundred. */
    private static void termsBlowsByHundredCut() {
        int[][] cases = {{0, 999, 0}, {1, 99, 0}, {1, 100, 1}, {1, 199, 1}, {50, 1, 0}, {99, 100, 99}, {99, 1, 0}, {100, 999, 999}};
        for (int[] k : cases) {
            LeavesBeforeWind x = Due.under("falls 0;blows " + k[0] + ";rots 0;");
            x.strew(0, k[1]);
            lie(x, 1, 6, k[2], 0);
            lie(x, 1, 0, k[1] - k[2], 0);
        }
    }

    /** "all blow, at once, by how they lay": what comes to a CELL doesn't blow on, nor do many count what comes. */
    private static void termsAtOnceByHowTheyLay() {
        for (int way = 0; way < 4; way++) {
            int step = new int[] {6, 1, -6, -1}[way];
            LeavesBeforeWind x = Due.under("falls 0;blows (many=10)*100+(many=30)*100;rots 0;");
            x.strew(14, 10);
            x.strew(14 + step, 20);
            x.strew(14 - step, 30);
            x.sky(0, 0, way);
            lie(x, 1, 14 - step, 0, 0);
            lie(x, 1, 14, 30, 0);
            lie(x, 1, 14 + step, 30, 0);
        }
    }

    /** "as many by 100 (cut) as rots says (many: ahead of that) are ROTTEN": 15 dry, 15 wet; many is 30 for both. */
    private static void termsRotsByHundredCut() {
        int[][] cases = {{0, 999, 0}, {1, 99, 0}, {1, 100, 1}, {50, 1, 0}, {99, 100, 99}, {100, 999, 999}};
        for (int[] k : cases) {
            LeavesBeforeWind x = Due.under("falls 0;blows 0;rots " + k[0] + ";");
            x.strew(0, k[1]);
            Due.is("ROTTEN", x.sum(1, 2), k[2]);
            lie(x, 1, 0, k[1] - k[2], 0);
        }
        LeavesBeforeWind many = Due.under("falls 0;blows 0;rots frost*((many=30)*50+(many=30-7)*90);");
        many.strew(0, 30);
        many.sky(0, 3, 1);
        many.sky(1, 2, 1);
        lie(many, 2, 0, 8, 8);
        Due.is("7 dry ones, 7 wet ones", many.sum(2, 2), 14);
    }

    /** "Then each CELL that SUFFERS ... is COVERED": behind the blowing and the rot, ahead of the raking. */
    private static void termsCoveredBehindTheRot() {
        LeavesBeforeWind x = Due.under("falls 0;blows 0;rots 5;");
        x.strew(0, 21);
        x.strew(1, 20);
        Due.is("20 are left", x.lie(1, 0, 2), 1);
        Due.is("19 are left", x.lie(1, 1, 2), 0);
        LeavesBeforeWind raked = Due.under(STILL);
        raked.strew(0, 20);
        raked.rake(1);
        Due.is("ahead of the raking", raked.lie(14, 0, 2), 1);
    }

    /** "Then, if one is RAKING on it, all that lie are RAKED": dry and wet, on every KIND; on no other DAY. */
    private static void termsAllThatLieAreRaked() {
        LeavesBeforeWind x = Due.under(STILL);
        for (int c = 0; c < 36; c++) {
            x.lay(c, c % 6, 99);
            x.strew(c, 3);
        }
        x.sky(0, 3, 1);
        x.rake(1 << 1);
        Due.is("none RAKED ahead of it", x.sum(1, 3), 0);
        Due.is("all RAKED", x.sum(2, 3), 108);
        Due.is("none lie", x.sum(2, 0), 0);
        Due.is("none RAKED behind it", x.sum(14, 3), 108);
    }

    /** "all that lie are RAKED": not what HANGS yet; what falls behind it lies. */
    private static void termsWhatFallsLaterLies() {
        LeavesBeforeWind x = Due.under("falls 2;blows 0;rots 0;");
        x.tree(0, 0, 999);
        x.rake(1 << 12);
        Due.is("RAKED", x.sum(14, 3), 26);
        Due.is("lie", x.sum(14, 0), 2);
    }

    /** "its dry leaves, and its wet ones times 4, times how far (x and y together)": from 0 to 10. */
    private static void termsHowFar() {
        for (int c = 0; c < 36; c++) {
            LeavesBeforeWind x = Due.under(STILL);
            x.strew(c, 7);
            x.sky(0, 3, 1);
            Due.is("7 dry ones from " + c, x.raking(0), 7 * (c / 6 + c % 6) + 30);
            Due.is("7 wet ones from " + c, x.raking(1), 4 * 7 * (c / 6 + c % 6) + 30);
            x.heap(1L << 35);
            Due.is("7 dry ones to 35", x.raking(0), 7 * (10 - c / 6 - c % 6) + 30);
        }
    }

    /** "the nearest HEAP is (of like ones the first)": the first gets no 30 of its own, the other would. */
    private static void termsOfLikeHeapsTheFirst() {
        LeavesBeforeWind x = new LeavesBeforeWind();
        x.heap(1L | 1L << 4);
        x.strew(0, 1);
        x.strew(2, 1);
        Due.is("2 belongs to 0", x.raking(0), 2 + 30);
        x.strew(0, 0);
        x.strew(4, 1);
        Due.is("2 belongs to 0, 4 to 4", x.raking(0), 2 + 60);
    }

    /** "and 30 for each HEAP to which any belong (those on its own CELL, too)": none for a heap to which none belong. */
    private static void termsThirtyForEachHeap() {
        LeavesBeforeWind x = new LeavesBeforeWind();
        x.heap((1L << 36) - 1);
        Due.is("none lie", x.raking(0), 0);
        for (int c = 0; c < 36; c++) {
            x.strew(c, c == 0 ? 999 : 1);
            Due.is("those on " + (c + 1) + " HEAPS", x.raking(0), 30 * (c + 1));
        }
        x.heap(1L << 7);
        Due.is("one HEAP, all belong to it", x.raking(0), 999 * 2 + costToSeven() + 30);
    }

    /** One leaf from each cell but cell 0. */
    private static int costToSeven() {
        int cost = 0;
        for (int c = 1; c < 36; c++) cost += Math.abs(c / 6 - 1) + Math.abs(c % 6 - 1);
        return cost;
    }

    /** "DRAWN by a SEED (0 .. 99999)", "LOTS ... modulo 2147483647": the least seed, the most, products beyond 32 bits. */
    private static void termsLots() {
        for (int seed : new int[] {0, 1, 99998, 99999}) {
            LeavesBeforeWind x = Due.under("falls 0;blows strong*3;rots 0;"), y = Due.under("falls 0;blows strong*3;rots 0;");
            java.math.BigInteger lot = java.math.BigInteger.valueOf(seed + 1), modulus = java.math.BigInteger.valueOf(2147483647);
            x.strew(14, 999);
            y.strew(14, 999);
            for (int d = 0; d < 14; d++) {
                lot = lot.multiply(java.math.BigInteger.valueOf(48271)).mod(modulus);
                y.sky(d, 0, lot.intValue() % 4);
                y.sky(d, 1, lot.intValue() / 4 % 10);
            }
            for (int what = 0; what < 9; what++) Due.is("seed " + seed, x.drawn(seed, 14, what), y.sum(14, what));
            Due.is("seed " + seed + " behind none", x.drawn(seed, 0, 0), 999);
        }
    }

    /** "SHEETS 0 .. 3 are rows of numbers, or missing (as all are at first)". */
    private static void termsSheetsAtFirst() {
        LeavesBeforeWind x = new LeavesBeforeWind();
        for (int s = 0; s < 4; s++) {
            Due.is("cell", x.cell(s, 0, 0), -11);
            Due.is("judge", x.judge(s, 0), -11);
            Due.is("copy", x.copy(s, 0, s, 0, 0), -11);
            Due.is("treesBy", x.treesBy(s, 0, 0, 0), -11);
        }
    }

    /** "What is asked changes nothing, but where it is told": film() alone is told of. */
    private static void termsWhatIsAskedChangesNothing() {
        Refusal.asksOnly("skyTold(13, 3)", "count(0)", "count(1)", "count(2)", "count(3)", "count(4)",
                "asks(0, 9999, 91, 19, 9999)", "asks(1, 1, 31, 12, 9)", "asks(2, 0, 0, 0, 0)", "cellTold(35, 2)", "treeTold(1, 2)");
        Refusal.asksOnly("lie(14, 3, 0)", "sum(14, 4)", "hang(14, 0)", "great(0)", "great(1)", "worst(14, 0)", "corner(9, 1)");
        Refusal.asksOnly("least(14, 0)", "least(0, 1)", "where(14, 0)", "where(14, 3)", "raking(13)", "taken(36, 6)", "taken(7, 4)");
        Refusal.asksOnly("tonight(14, 39, 0)", "tonight(3, 10, 2)", "hurdle(14, 3, 0)", "hurdle(3, 99, 1)", "share(14, 1, 0)", "away(0)");
        Refusal.asksOnly("judge(0, 14)", "judge(0, 0)", "laws(0, 14)", "winds(0, 14)", "winds(0, 1)");
        Refusal.asksOnly("drawn(99999, 14, 0)", "drawn(0, 1, 8)", "odds(99999, 10, 300, 0)");
    }

    /** thrice() may answer any number, so it is looked at by itself: "What is asked changes nothing". */
    private static void termsThriceChangesNothing() {
        LeavesBeforeWind x = Refusal.twin("");
        long thrice = Refusal.call(Refusal.twin(""), "thrice()");
        Refusal.behind("", thrice, "thrice()");
        Due.is("RAKING", x.count(1), 8200);
    }
}
