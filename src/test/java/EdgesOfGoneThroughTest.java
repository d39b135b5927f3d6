/** Promises 18 to 23: a test for each sentence that names an edge or a refusal. */
public final class EdgesOfGoneThroughTest {
    private static final String STILL = "falls 0;blows 0;rots 0;";

    public static void main(String[] args) throws ReflectiveOperationException {
        Due.everySentence(EdgesOfGoneThroughTest.class);
    }

    /** "-5: n". */
    private static void promise18NoSuchN() {
        Refusal.is(-5, "lie(-1, 0, 0)", "lie(15, 0, 0)", "lie(MIN, 0, 0)", "lie(MAX, 0, 0)", "lie(15, 0, 3)", "lie(-1, 0, -1)");
    }

    /** "-5: no such CELL". */
    private static void promise18NoSuchCell() {
        Refusal.is(-5, "lie(0, -1, 0)", "lie(14, 36, 0)", "lie(0, MIN, 0)", "lie(0, MAX, 0)", "lie(0, 36, 3)", "lie(14, -1, -1)");
    }

    /** "-7: what". */
    private static void promise18NoSuchWhat() {
        Refusal.is(-7, "lie(0, 0, -1)", "lie(14, 35, 3)", "lie(0, 0, MIN)", "lie(0, 0, MAX)");
    }

    /** "In a CELL behind n DAYS": none and all of them, in the first CELL and the last. */
    private static void promise18FirstAndLast() {
        for (int c = 0; c < 36; c += 35) {
            LeavesBeforeWind x = Due.under(STILL);
            x.strew(c, 999);
            x.sky(13, 3, 1);
            int[][] due = {{0, 999, 0, 0}, {13, 999, 0, 13}, {14, 0, 999, 14}};
            for (int[] k : due) {
                for (int what = 0; what < 3; what++) Due.is("lie(" + k[0] + ", " + c + ", " + what + ")", x.lie(k[0], c, what), k[1 + what]);
            }
        }
    }

    /** "-5: n", ahead of what. */
    private static void promise19NoSuchN() {
        Refusal.is(-5, "sum(-1, 0)", "sum(15, 8)", "sum(MIN, 0)", "sum(MAX, 0)", "sum(15, 9)", "sum(-1, -1)");
    }

    /** "-7: what". */
    private static void promise19NoSuchWhat() {
        Refusal.is(-7, "sum(0, -1)", "sum(14, 9)", "sum(0, MIN)", "sum(0, MAX)");
    }

    /** "Behind n DAYS what 0 .. 8": behind none there are but those that lie and HANG. */
    private static void promise19BehindNone() {
        LeavesBeforeWind x = Refusal.twin("");
        int[] due = {21 + 55 + 70 + 33, 300 + 40 + 900, 0, 0, 0, 0, 0, 0, 0};
        for (int what = 0; what < 9; what++) Due.is("sum(0, " + what + ")", x.sum(0, what), due[what]);
    }

    /** "what 0 .. 3, 5 .. 8": behind any n DAYS none is lost, none is counted twice. */
    private static void promise19NoneIsLost() {
        for (String law : new String[] {"force(0)", "force(1)"}) {
            LeavesBeforeWind x = Refusal.twin(law);
            for (int n = 0; n < 15; n++) {
                int together = 0;
                for (int what = 0; what < 9; what++) together += what == 4 ? 0 : x.sum(n, what);
                Due.is("all together behind " + n, together, 179 + 1240);
            }
        }
    }

    /** "1 HANG yet": of no TREES none; "3 RAKED, 4 what all RAKING cost": on no DAY none; all at their most. */
    private static void promise19LeastAndMost() {
        LeavesBeforeWind x = Due.under(STILL);
        for (int what = 0; what < 9; what++) Due.is("least " + what, x.sum(14, what), 0);
        for (int t = 0; t < 4; t++) x.tree(35, 9, 999);
        for (int c = 0; c < 36; c++) x.strew(c, 999);
        Due.is("lie", x.sum(14, 0), 36 * 999);
        Due.is("HANG", x.sum(14, 1), 4 * 999);
        x.rake(16383);
        Due.is("RAKED", x.sum(14, 3), 36 * 999);
        Due.is("cost", x.sum(14, 4), 999 * 180 + 30);
        x.sky(0, 3, 1);
        Due.is("cost, wet", x.sum(14, 4), 4 * 999 * 180 + 30);
    }

    /** "-5: n". */
    private static void promise20NoSuchN() {
        Refusal.is(-5, "hang(-1, 0)", "hang(15, 0)", "hang(MIN, 0)", "hang(MAX, 0)");
    }

    /** "-5: no such TREE": also the one behind the last. */
    private static void promise20NoSuchTree() {
        Refusal.is(-5, "hang(0, -1)", "hang(14, 3)", "hang(0, 4)", "hang(0, MIN)", "hang(0, MAX)");
        Refusal.behind("tree(0, 0, 0)", -5, "hang(0, 4)");
        Due.is("no TREES", new LeavesBeforeWind().hang(0, 0), -5);
    }

    /** "How many HANG on a TREE behind n DAYS": behind none all, down to none. */
    private static void promise20AllAndNone() {
        LeavesBeforeWind x = Due.under("falls 1;blows 0;rots 0;");
        for (int t = 0; t < 4; t++) x.tree(0, 0, 12 + t);
        for (int t = 0; t < 4; t++) {
            for (int n = 0; n < 15; n++) Due.is("hang(" + n + ", " + t + ")", x.hang(n, t), Math.max(0, 12 + t - n));
        }
    }

    /** "BAD.": also where none fall. */
    private static void promise21Bad() {
        Refusal.is(-2, "great(-1)", "great(2)", "great(MIN)", "great(MAX)");
    }

    /** "(a -1 that is an answer comes behind the refusal of a number)". */
    private static void promise21BadAheadOfNone() {
        Refusal.behind("fell(); fell(); fell()", -2, "great(-1)", "great(2)");
    }

    /** "the first on which most fall (what 0; -1: none do), how many (1)": no TREES, none that HANG, a law by which none fall. */
    private static void promise21NoneDo() {
        LeavesBeforeWind x = new LeavesBeforeWind();
        LeavesBeforeWind bare = new LeavesBeforeWind();
        bare.tree(0, 0, 0);
        LeavesBeforeWind still = Due.under(STILL);
        still.tree(0, 0, 999);
        still.strew(0, 999);
        for (LeavesBeforeWind none : new LeavesBeforeWind[] {x, bare, still}) {
            Due.is("none do", none.great(0), -1);
            Due.is("how many", none.great(1), 0);
        }
    }

    /** "Of all 14 DAYS the first on which most fall": each DAY alone; of two the first. */
    private static void promise21FirstOfLikeOnes() {
        for (int d = 0; d < 14; d++) {
            LeavesBeforeWind x = Due.under("falls frost*5;blows 0;rots 0;");
            x.tree(35, 0, 7);
            x.sky(d, 2, 1);
            Due.is("that one", x.great(0), d);
            Due.is("how many", x.great(1), 5);
            x.tree(0, 0, 999);
            x.sky(13, 2, 1);
            Due.is("the first, where 7 hung, not 2", x.great(0), d);
            Due.is("how many of both", x.great(1), 10);
        }
        LeavesBeforeWind like = Due.under("falls 5;blows 0;rots 0;");
        like.tree(0, 0, 999);
        Due.is("all are like", like.great(0), 0);
    }

    /** "-5: n", ahead of what. */
    private static void promise22NoSuchN() {
        Refusal.is(-5, "worst(-1, 0)", "worst(15, 1)", "worst(MIN, 0)", "worst(MAX, 0)", "worst(15, 2)", "worst(-1, -1)");
    }

    /** "-7: what". */
    private static void promise22NoSuchWhat() {
        Refusal.is(-7, "worst(0, -1)", "worst(14, 2)", "worst(0, MIN)", "worst(0, MAX)");
    }

    /** "(what 0; 0: none was), for how many (1)": behind none; with 19; on what doesn't suffer. */
    private static void promise22NoneWas() {
        LeavesBeforeWind x = Due.under(STILL);
        x.strew(35, 19);
        x.strew(34, 20);
        for (int what = 0; what < 2; what++) Due.is("behind none", x.worst(0, what), 0);
        x.lay(34, 4, 0);
        for (int what = 0; what < 2; what++) Due.is("behind all", x.worst(14, what), 0);
    }

    /** "the first CELL that was COVERED for most DAYS": each alone; of like ones the first; a later one for one more. */
    private static void promise22FirstOfLikeOnes() {
        for (int c = 0; c < 36; c++) {
            LeavesBeforeWind x = Due.under("falls 0;blows 0;rots frost*100;");
            x.strew(c, 20);
            Due.is("that one", x.worst(14, 0), c);
            Due.is("for how many", x.worst(14, 1), 14);
            x.strew(35, 999);
            Due.is("the first", x.worst(14, 0), c);
            x.tree(35, 0, 0);
            x.sky(3, 2, 1);
            Due.is("for how many", x.worst(14, 1), 3);
        }
        LeavesBeforeWind more = Due.under("falls strong*20;blows 0;rots frost*100;");
        more.strew(0, 20);
        more.tree(35, 0, 20);
        more.sky(2, 2, 1);
        more.sky(11, 1, 1);
        Due.is("two days, three days", more.worst(14, 0) * 100 + more.worst(14, 1), 3503);
    }

    /** "-5: n", ahead of what. */
    private static void promise23NoSuchN() {
        Refusal.is(-5, "corner(-1, 0)", "corner(15, 1)", "corner(MIN, 0)", "corner(MAX, 0)", "corner(15, 2)", "corner(-1, -1)");
    }

    /** "-7: what". */
    private static void promise23NoSuchWhat() {
        Refusal.is(-7, "corner(0, -1)", "corner(14, 2)", "corner(0, MIN)", "corner(0, MAX)");
    }

    /** "(what 0; 0: none do), how many (1)". */
    private static void promise23NoneDo() {
        LeavesBeforeWind x = Due.under("falls 0;blows 0;rots 100;");
        for (int what = 0; what < 2; what++) Due.is("none at first", x.corner(0, what), 0);
        x.strew(35, 999);
        for (int what = 0; what < 2; what++) Due.is("none behind the rot", x.corner(14, what), 0);
        Due.is("ahead of it", x.corner(0, 0), 35);
    }

    /** "the first CELL in which most lie": each alone, with one leaf; of like ones the first; a later one with one more. */
    private static void promise23FirstOfLikeOnes() {
        for (int c = 0; c < 36; c++) {
            LeavesBeforeWind x = new LeavesBeforeWind();
            x.strew(c, 1);
            Due.is("that one", x.corner(0, 0), c);
            Due.is("how many", x.corner(0, 1), 1);
            x.strew(35, 1);
            Due.is("the first", x.corner(0, 0), c);
            x.strew(35, 2);
            Due.is("with one more", x.corner(0, 0), 35);
        }
    }
}
