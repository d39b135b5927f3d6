/** Promises 28 to 31: a test for each sentence that names an edge or a refusal. */
public final class EdgesOfWindsTest {
    private static final String STILL = "falls 0;blows 0;rots 0;";

    public static void main(String[] args) throws ReflectiveOperationException {
        Due.everySentence(EdgesOfWindsTest.class);
    }

    /** "-5: n", ahead of the others. */
    private static void promise28NoSuchN() {
        Refusal.is(-5, "tonight(-1, 0, 0)", "tonight(15, 0, 0)", "tonight(MIN, 0, 0)", "tonight(MAX, 0, 0)", "tonight(15, 40, 0)", "tonight(-1, 0, 3)");
    }

    /** "-7: wayStrong" (WAY 0 .. 3, STRONG 0 .. 9). */
    private static void promise28NoSuchWayStrong() {
        Refusal.is(-7, "tonight(0, -1, 0)", "tonight(14, 40, 0)", "tonight(0, -10, 0)", "tonight(0, MIN, 0)", "tonight(0, MAX, 0)");
    }

    /** "-7: what". */
    private static void promise28NoSuchWhat() {
        Refusal.is(-7, "tonight(0, 0, -1)", "tonight(14, 39, 3)", "tonight(0, 0, MIN)", "tonight(0, 0, MAX)");
    }

    /** "(wayStrong: 10 times the WAY, and STRONG": all forty, the least and the most among them. */
    private static void promise28EveryWayStrong() {
        LeavesBeforeWind x = new LeavesBeforeWind();
        x.strew(0, 100);
        for (int way = 0; way < 4; way++) {
            for (int strong = 0; strong < 10; strong++) {
                Due.is("lie where none lay, by " + way + strong, x.tonight(0, 10 * way + strong, 0), way < 2 ? 10 * strong : 0);
                Due.is("OFF by " + way + strong, x.tonight(0, 10 * way + strong, 1), way < 2 ? 0 : 10 * strong);
                Due.is("stay by " + way + strong, x.tonight(0, 10 * way + strong, 2), 100 - 10 * strong);
            }
        }
    }

    /** "no FROST)": nor the last DAY's. */
    private static void promise28NoFrost() {
        LeavesBeforeWind x = Due.under("falls 0;blows frost*100;rots 0;");
        x.strew(0, 100);
        for (int d = 0; d < 14; d++) x.sky(d, 2, 1);
        Due.is("by a DAY with FROST", x.sum(6, 5), 100);
        Due.is("none by night", x.tonight(5, 9, 1), 0);
        Due.is("those that lie lay there", x.tonight(5, 9, 2), 100);
        LeavesBeforeWind none = Due.under("falls 0;blows (frost=0)*100;rots 0;");
        none.strew(30, 100);
        none.sky(0, 2, 1);
        Due.is("by a DAY with FROST none", none.sum(1, 5), 0);
        Due.is("by night all", none.tonight(1, 9, 1), 100);
    }

    /** Where none lie nothing is told; behind none and behind all DAYS. */
    private static void promise28NoneLie() {
        LeavesBeforeWind x = Due.allBlow();
        for (int n = 0; n < 15; n += 14) {
            for (int what = 0; what < 3; what++) Due.is("none lie behind " + n, x.tonight(n, 39, what), 0);
        }
    }

    /** "1 how many more are OFF": not those that had been. */
    private static void promise28HowManyMore() {
        LeavesBeforeWind x = Due.allBlow();
        x.strew(30, 7);
        x.strew(24, 5);
        Due.is("the first night", x.tonight(0, 0, 1), 7);
        Due.is("behind the first DAY", x.tonight(1, 0, 1), 5);
        Due.is("behind the second", x.tonight(2, 0, 1), 0);
        Due.is("OFF by another WAY than before", x.tonight(1, 30, 1), 5);
    }

    /** "no more": neither falls, rots, dries nor rakes by night, were it to be behind the last DAY. */
    private static void promise28BlowAlone() {
        LeavesBeforeWind x = Due.under("falls 9;blows 0;rots strong*100;");
        x.tree(0, 0, 999);
        x.rake(2);
        x.sky(1, 1, 9);
        Due.is("those that lie lay there", x.tonight(1, 9, 2), 9);
        Due.is("none lie where none lay", x.tonight(1, 9, 0), 0);
    }

    /** "-5: n", ahead of the others. */
    private static void promise29NoSuchN() {
        Refusal.is(-5, "hurdle(-1, 0, 0)", "hurdle(15, 0, 0)", "hurdle(MIN, 0, 0)", "hurdle(MAX, 0, 0)", "hurdle(15, 100, 0)", "hurdle(-1, 0, 2)");
    }

    /** "-7: more (0 .. 99)". */
    private static void promise29NoSuchMore() {
        Refusal.is(-7, "hurdle(0, -1, 0)", "hurdle(14, 100, 0)", "hurdle(0, MIN, 0)", "hurdle(0, MAX, 0)");
    }

    /** "-7: what". */
    private static void promise29NoSuchWhat() {
        Refusal.is(-7, "hurdle(0, 0, -1)", "hurdle(14, 99, 2)", "hurdle(0, 0, MIN)", "hurdle(0, 0, MAX)");
    }

    /** "of like ones the first": where none lie; where what lies is the same in two. */
    private static void promise29FirstOfLikeOnes() {
        LeavesBeforeWind x = Due.under(STILL);
        Due.is("none lie", x.hurdle(14, 99, 0), 0);
        Due.is("none lie", x.hurdle(0, 0, 1), 0);
        x.strew(35, 5);
        Due.is("the last CELL", x.hurdle(14, 0, 0), 35);
        x.strew(34, 5);
        Due.is("of two the first", x.hurdle(14, 0, 0), 34);
        Due.is("how many", x.hurdle(14, 0, 1), 5);
    }

    /** "MORE" 0 and 99 "were it a CORNER": of 999 that blow each DAY 0, or half (cut), 99 at most, go off it. */
    private static void promise29LeastAndMost() {
        LeavesBeforeWind x = Due.allBlow();
        x.strew(14, 999);
        Due.is("MORE 0", x.hurdle(2, 0, 0) * 1000 + x.hurdle(2, 0, 1), 14999);
        Due.is("MORE 99", x.hurdle(2, 99, 0) * 1000 + x.hurdle(2, 99, 1), 26999);
        x.strew(14, 0);
        x.strew(32, 999);
        Due.is("MORE 99, two DAYS", x.hurdle(2, 99, 0) * 1000 + x.hurdle(2, 99, 1), 32801);
        Due.is("the lawn stays", x.cellTold(32, 0), 0);
    }

    /** "NO: n". */
    private static void promise30NoSuchN() {
        Refusal.is(Refusal.NO, "share(-1, 0, 0)", "share(15, 0, 0)", "share(MIN, 0, 0)", "share(MAX, 0, 0)");
    }

    /** "NO: WAY". */
    private static void promise30NoSuchWay() {
        Refusal.is(Refusal.NO, "share(0, -1, 0)", "share(14, 4, 0)", "share(0, MIN, 0)", "share(0, MAX, 0)");
    }

    /** "NO: part". */
    private static void promise30NoSuchPart() {
        Refusal.is(Refusal.NO, "share(0, 0, -1)", "share(14, 3, 2)", "share(0, 0, MIN)", "share(0, 0, MAX)");
    }

    /** "NO: there were none": neither lay at first, nor fell in n DAYS. */
    private static void promise30ThereWereNone() {
        LeavesBeforeWind x = Due.under("falls frost*5;blows 0;rots 0;");
        x.tree(0, 0, 999);
        x.sky(13, 2, 1);
        for (int part = 0; part < 2; part++) {
            Due.is("none fell behind 0", x.share(0, 0, part), Refusal.NO);
            Due.is("none fell behind 13", x.share(13, 0, part), Refusal.NO);
            Due.is("5 fell behind 14", x.share(14, 0, part), part);
        }
        x.strew(35, 1);
        for (int part = 0; part < 2; part++) Due.is("one lay", x.share(0, 3, part), part);
    }

    /** "in lowest terms": none of them (0 to 1), all (1 to 1), one of the most that can be, a common divisor. */
    private static void promise30LowestTerms() {
        LeavesBeforeWind x = Due.allBlow();
        x.strew(30, 999);
        share(x, 1, 1, 0, 1);
        share(x, 1, 0, 1, 1);
        x.strew(0, 999);
        share(x, 1, 0, 1, 2);
        x.strew(30, 998);
        x.strew(0, 998 / 2);
        share(x, 1, 0, 2, 3);
        for (int c = 0; c < 30; c++) x.strew(c, 999);
        x.strew(30, 1);
        share(x, 1, 0, 1, 29971);
    }

    private static void share(LeavesBeforeWind x, int n, int w, int above, int below) {
        Due.is("share(" + n + ", " + w + ", 0)", x.share(n, w, 0), above);
        Due.is("share(" + n + ", " + w + ", 1)", x.share(n, w, 1), below);
    }

    /** "Of all that lay at first, and fell in n DAYS": not what hangs yet; what rots or is raked counts below the line. */
    private static void promise30WhatHangsIsNotOfThem() {
        LeavesBeforeWind x = Due.under("falls 3;blows strong*100;rots frost*100;");
        x.tree(14, 0, 999);
        x.strew(33, 6);
        x.sky(0, 1, 9);
        x.sky(1, 2, 1);
        x.sky(1, 0, 1);
        x.rake(4);
        share(x, 1, 0, 2, 3);
        share(x, 2, 0, 1, 2);
        share(x, 3, 0, 2, 5);
    }

    /** "BAD." */
    private static void promise31Bad() {
        Refusal.is(-2, "away(-1)", "away(2)", "away(MIN)", "away(MAX)");
    }

    /** "of like ones the first": where none are OFF by any, where as many are by each. */
    private static void promise31FirstOfLikeOnes() {
        LeavesBeforeWind x = Due.allBlow();
        Due.is("none", x.away(0), 0);
        Due.is("none", x.away(1), 0);
        x.strew(14, 5);
        Due.is("all by each", x.away(0), 0);
        Due.is("all by each", x.away(1), 5);
        for (int way = 0; way < 3; way++) {
            x.lay(new int[] {20, 15, 8}[way], 2, 0);
            Due.is("a wall by " + way, x.away(0), way + 1);
            Due.is("a wall by " + way, x.away(1), 5);
        }
        x.lay(13, 2, 0);
        Due.is("walls by all", x.away(0) * 10 + x.away(1), 0);
    }

    /** "were it that of all 14 DAYS": of the first as of the last. */
    private static void promise31AllFourteenDays() {
        for (int d = 0; d < 14; d++) {
            LeavesBeforeWind x = new LeavesBeforeWind();
            x.strew(5, 100);
            x.sky(d, 0, 2);
            x.sky(d, 1, 9);
            Due.is("by 1 and 2 from CELL 5", x.away(0), 1);
            Due.is("how many", x.away(1), 90);
            Due.is("the WAY stays", x.skyTold(d, 0), 2);
        }
    }
}
