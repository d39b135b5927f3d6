/** Promises 24 to 27: a test for each sentence that names an edge or a refusal. */
public final class EdgesOfRakingTest {
    private static final String STILL = "falls 0;blows 0;rots 0;";

    public static void main(String[] args) throws ReflectiveOperationException {
        Due.everySentence(EdgesOfRakingTest.class);
    }

    /** "BAD": most (0 .. 14). */
    private static void promise24BadMost() {
        Refusal.is(-2, "least(-1, 0)", "least(15, 1)", "least(MIN, 0)", "least(MAX, 0)");
    }

    /** "BAD": what. */
    private static void promise24BadWhat() {
        Refusal.is(-2, "least(0, -1)", "least(14, 2)", "least(14, MIN)", "least(14, MAX)");
    }

    /** "(a -1 that is an answer comes behind the refusal of a number)". */
    private static void promise24BadAheadOfNone() {
        LeavesBeforeWind x = new LeavesBeforeWind();
        x.strew(0, 20);
        Due.is("none", x.least(0, 0), -1);
        Due.is("BAD", x.least(0, 2), -2);
    }

    /** "(what 0; -1: none), what it costs (1; -1)": COVERED on DAYS 0 .. 3 whatever is raked, so none for 3 and less. */
    private static void promise24None() {
        LeavesBeforeWind x = Due.under(STILL);
        x.strew(7, 20);
        for (int most = 0; most < 15; most++) {
            int set = most < 4 ? -1 : most < 14 ? 8 : 0;
            Due.is("least(" + most + ", 0)", x.least(most, 0), set);
            Due.is("least(" + most + ", 1)", x.least(most, 1), set < 0 ? -1 : set == 0 ? 0 : 70);
        }
    }

    /** "by which no CELL is COVERED for more than most": none is by most 0, where none suffers or 19 lie. */
    private static void promise24MostZero() {
        LeavesBeforeWind x = Due.under(STILL);
        x.strew(7, 19);
        x.strew(35, 999);
        x.lay(35, 1, 0);
        Due.is("no DAY", x.least(0, 0), 0);
        Due.is("for nothing", x.least(0, 1), 0);
        x.strew(7, 20);
        Due.is("none", x.least(0, 0), -1);
    }

    /** "Of sets of DAYS 3, 6, 10, 13": 20 come on each of the four, and COVER on it whatever is raked. */
    private static void promise24AllFourDays() {
        LeavesBeforeWind x = Due.under("falls frost*20;blows 0;rots 0;");
        x.tree(7, 0, 999);
        int[] days = {3, 6, 10, 13};
        for (int d : days) x.sky(d, 2, 1);
        Due.is("COVERED on 3, 6, 10, 13 alone", x.least(4, 0), 8 | 64 | 1024);
        Due.is("20 each", x.least(4, 1), 210);
        Due.is("no set keeps it from them", x.least(3, 0), -1);
        Due.is("two, COVERED on 3, 6, 10 .. 13", x.least(7, 0), 8 | 64);
        Due.is("20 each", x.least(7, 1), 140);
        Due.is("one, COVERED on 3 .. 6, 10 .. 13", x.least(8, 0), 64);
        Due.is("40", x.least(8, 1), 110);
    }

    /** "of like ones the least as bits". */
    private static void promise24LeastOfLikeOnes() {
        LeavesBeforeWind x = Due.under(STILL);
        x.strew(0, 20);
        Due.is("30 on each of the four", x.least(13, 0), 8);
        Due.is("30", x.least(13, 1), 30);
        x.strew(0, 0);
        Due.is("nothing on any", x.least(0, 0), 0);
        LeavesBeforeWind late = Due.under("falls frost*20;blows 0;rots 0;");
        late.tree(0, 0, 20);
        late.sky(5, 2, 1);
        Due.is("6, 10 and 13 cost the same, 3 nothing", late.least(8, 0), 64);
        Due.is("6 alone keeps it to 2", late.least(2, 0), 64);
        Due.is("none keeps it to 1", late.least(1, 0), -1);
    }

    /** "RAKING ... DAYS 4, 9, 13 ... less ... DAY 13 alone": nothing to rake; below 0 where the first two save more. */
    private static void promise25NothingAndBelowZero() {
        Due.is("nothing", new LeavesBeforeWind().thrice(), 0);
        LeavesBeforeWind x = Due.under(STILL);
        x.strew(35, 999);
        Due.is("once as thrice", x.thrice(), 0);
        x.sky(13, 3, 1);
        Due.is("wet on the last", x.thrice(), -3 * 999 * 10);
        x.sky(4, 3, 1);
        Due.is("wet on the first, too", x.thrice(), 0);
    }

    /** "What RAKING on DAYS 4, 9, 13 would cost": whatever RAKING is told, which stays as it is. */
    private static void promise25WouldCost() {
        for (int set : new int[] {0, 1, 16, 528, 8720, 16383}) {
            LeavesBeforeWind x = Due.under("falls 1;blows 0;rots 0;");
            x.tree(0, 0, 999);
            x.rake(set);
            Due.is("30 for each", x.thrice(), 60);
            Due.is("RAKING", x.count(1), set);
        }
    }

    /** "-5: n", ahead of what. */
    private static void promise26NoSuchN() {
        Refusal.is(-5, "where(-1, 0)", "where(15, 3)", "where(MIN, 0)", "where(MAX, 0)", "where(15, 4)", "where(-1, -1)");
    }

    /** "-7: what". */
    private static void promise26NoSuchWhat() {
        Refusal.is(-7, "where(0, -1)", "where(14, 4)", "where(0, MIN)", "where(0, MAX)");
    }

    private static void where(LeavesBeforeWind x, int n, int heap, int price, int two, int priceOfTwo) {
        int[] due = {heap, price, two, priceOfTwo};
        for (int what = 0; what < 4; what++) Due.is("where(" + n + ", " + what + ")", x.where(n, what), due[what]);
    }

    /** Where none lie all are like ones, and cost nothing: the first CELL, and the first two. */
    private static void promise26NoneLie() {
        where(new LeavesBeforeWind(), 0, 0, 0, 1, 0);
        LeavesBeforeWind x = new LeavesBeforeWind();
        x.strew(35, 999);
        x.rake(1 << 13);
        where(x, 14, 0, 0, 1, 0);
        where(x, 13, 35, 30, 35, 30);
    }

    /** "the CELL with which, as the only HEAP": each, where leaves lie in it alone; "the two": with the first other one. */
    private static void promise26EachCellAlone() {
        for (int c = 0; c < 36; c++) {
            LeavesBeforeWind x = new LeavesBeforeWind();
            x.heap((1L << 36) - 1);
            x.strew(c, 5);
            where(x, 0, c, 30, c == 0 ? 1 : c, 30);
        }
    }

    /** "of like ones the first": any between two like ones; "the two (unlike)": "100 times the lesser, and the other; by these". */
    private static void promise26OfLikeOnesTheFirst() {
        LeavesBeforeWind x = new LeavesBeforeWind();
        x.strew(34, 31);
        x.strew(35, 31);
        where(x, 0, 34, 61, 3435, 60);
        x.strew(34, 30);
        x.strew(35, 30);
        where(x, 0, 34, 60, 34, 60);
        x.strew(34, 29);
        x.strew(35, 29);
        where(x, 0, 34, 59, 34, 59);
    }

    /** "the two (unlike)": the last two, where all lie in them; never one twice. */
    private static void promise26LastTwo() {
        LeavesBeforeWind x = new LeavesBeforeWind();
        x.strew(34, 999);
        x.strew(35, 999);
        where(x, 0, 34, 1029, 3435, 60);
        LeavesBeforeWind first = new LeavesBeforeWind();
        first.strew(0, 999);
        first.strew(1, 999);
        where(first, 0, 0, 1029, 1, 60);
        LeavesBeforeWind far = new LeavesBeforeWind();
        far.strew(0, 999);
        far.strew(35, 998);
        where(far, 0, 0, 9980 + 30, 35, 60);
    }

    /** "the two (unlike)": two CELLS, also where one HEAP alone would cost less than any two. */
    private static void promise26TwoWhereOneCostsLess() {
        LeavesBeforeWind x = Due.under("falls 0;blows 0;rots 0;");
        for (int c : new int[] {0, 5, 30, 35}) x.strew(c, 1);
        where(x, 0, 0, 5 + 5 + 10 + 30, 5, 5 + 5 + 60);
        where(x, 14, 0, 5 + 5 + 10 + 30, 5, 5 + 5 + 60);
    }

    /** "Behind n DAYS ... RAKING then": RAKING that has been, and HEAPS, do not matter but for what lies. */
    private static void promise26ThenAlone() {
        LeavesBeforeWind x = Due.under("falls 3;blows 0;rots 0;");
        x.tree(20, 0, 999);
        x.rake(1 << 5);
        x.heap(1L << 35);
        where(x, 6, 0, 0, 1, 0);
        where(x, 7, 20, 30, 20, 30);
    }

    /** "-5: n." */
    private static void promise27NoSuchN() {
        Refusal.is(-5, "raking(-1)", "raking(15)", "raking(MIN)", "raking(MAX)");
    }

    /** "What RAKING would cost behind n DAYS": nothing where none lie; the most; nothing behind one on the last DAY. */
    private static void promise27LeastAndMost() {
        LeavesBeforeWind x = Due.under(STILL);
        Due.is("none lie", x.raking(14), 0);
        for (int c = 0; c < 36; c++) x.strew(c, 999);
        Due.is("all", x.raking(0), 999 * 180 + 30);
        x.sky(13, 3, 1);
        Due.is("all, wet", x.raking(14), 4 * 999 * 180 + 30);
        x.heap((1L << 36) - 1);
        Due.is("each on its own HEAP", x.raking(14), 36 * 30);
        x.rake(1 << 13);
        Due.is("ahead of the RAKING", x.raking(13), 36 * 30);
        Due.is("behind the RAKING", x.raking(14), 0);
    }
}
