/** Promises 28 to 31: a night's wind, a hurdle, shares, the way by which most blow off. */
public final class WindsTest {
    public static void main(String[] args) {
        tonight();
        tonightBlowsAlone();
        hurdle();
        hurdleStays();
        share();
        away();
        Due.end();
    }

    private static void night(LeavesBeforeWind x, int n, int wayStrong, int fresh, int off, int lesser) {
        int[] due = {fresh, off, lesser};
        for (int what = 0; what < 3; what++) Due.is("tonight " + wayStrong + " " + what, x.tonight(n, wayStrong, what), due[what]);
    }

    private static void tonight() {
        LeavesBeforeWind x = Due.allBlow();
        x.strew(7, 10);
        x.strew(8, 4);
        x.strew(11, 6);
        night(x, 0, 10, 4, 6, 4);
        night(x, 0, 30, 10 + 6, 0, 4);
        night(x, 0, 0, 20, 0, 0);
        night(x, 0, 20, 10 + 4 + 6, 0, 0);
        x.strew(33, 5);
        night(x, 0, 0, 20, 5, 0);
        x.strew(33, 0);
        Due.wind(x, 2, 0);
        night(x, 1, 20, 0, 20, 0);
        night(x, 2, 20, 0, 0, 0);
        Due.is("sky stays", x.skyTold(0, 0), 2);
        LeavesBeforeWind law = new LeavesBeforeWind();
        law.strew(0, 100);
        night(law, 0, 15, 50, 0, 50);
        night(law, 0, 19, 90, 0, 10);
        night(law, 0, 39, 0, 90, 10);
        law.sky(0, 3, 1);
        night(law, 1, 19, 29, 0, 70);
    }

    private static void tonightBlowsAlone() {
        LeavesBeforeWind x = Due.under("falls 9;blows frost*100;rots 50;");
        x.tree(0, 0, 99);
        x.strew(7, 10);
        x.sky(0, 2, 1);
        x.sky(1, 2, 1);
        night(x, 0, 19, 0, 0, 10);
        night(x, 1, 19, 0, 0, 10);
        LeavesBeforeWind kinds = Due.allBlow();
        kinds.strew(7, 10);
        kinds.lay(8, 5, 3);
        night(kinds, 0, 10, 3, 0, 7);
    }

    private static void hurdle(LeavesBeforeWind x, int n, int more, int c, int lying) {
        Due.is("hurdle behind " + n + " with " + more, x.hurdle(n, more, 0), c);
        Due.is("lie in it behind " + n, x.hurdle(n, more, 1), lying);
    }

    private static void hurdle() {
        LeavesBeforeWind x = Due.allBlow();
        Due.is("none lie", x.hurdle(14, 0, 0), 0);
        Due.is("none lie", x.hurdle(14, 0, 1), 0);
        x.strew(0, 10);
        hurdle(x, 1, 0, 0, 10);
        x.strew(0, 0);
        x.strew(6, 10);
        Due.wind(x, 1, 0);
        hurdle(x, 0, 0, 6, 10);
        hurdle(x, 1, 0, 6, 10);
        hurdle(x, 1, 1, 7, 10);
        hurdle(x, 2, 99, 8, 10);
        hurdle(x, 6, 99, 11, 5);
        hurdle(x, 6, 1, 11, 9);
        hurdle(x, 7, 99, 11, 3);
        hurdle(x, 14, 0, 6, 10);
    }

    private static void hurdleStays() {
        LeavesBeforeWind x = Due.allBlow();
        x.strew(6, 10);
        x.strew(7, 3);
        x.lay(7, 2, 5);
        Due.wind(x, 1, 0);
        hurdle(x, 1, 99, 7, 10 + 2);
        hurdle(x, 2, 99, 6, 10);
        Due.is("the wall stays", x.cellTold(7, 0), 2);
        Due.is("its MORE stays", x.cellTold(7, 1), 5);
        Due.is("and holds", x.lie(14, 6, 0), 10);
    }

    private static void share(LeavesBeforeWind x, int n, int w, long above, long below) {
        Due.is("share " + n + " " + w + " above", x.share(n, w, 0), above);
        Due.is("share " + n + " " + w + " below", x.share(n, w, 1), below);
    }

    private static void share() {
        LeavesBeforeWind x = Due.allBlow();
        share(x, 14, 0, LeavesBeforeWind.NO, LeavesBeforeWind.NO);
        x.tree(5, 0, 10);
        share(x, 0, 0, LeavesBeforeWind.NO, LeavesBeforeWind.NO);
        share(x, 1, 0, 0, 1);
        Due.wind(x, 1, 0);
        x.strew(11, 10);
        share(x, 0, 1, 0, 1);
        share(x, 1, 1, 1, 1);
        x.strew(0, 4);
        share(x, 1, 1, 13, 17);
        share(x, 2, 1, 4, 5);
        share(x, 2, 0, 0, 1);
        share(x, 2, 3, 0, 1);
        x.sky(1, 0, 3);
        share(x, 2, 1, 13, 20);
        x.sky(2, 0, 3);
        share(x, 3, 3, 4, 23);
        x.rake(16383);
        share(x, 2, 1, 13, 20);
        LeavesBeforeWind one = Due.allBlow();
        one.strew(0, 1);
        share(one, 0, 2, 0, 1);
        one.sky(0, 0, 2);
        share(one, 1, 2, 1, 1);
    }

    private static void away() {
        LeavesBeforeWind x = Due.allBlow();
        x.strew(8, 10);
        Due.is("all by each", x.away(0), 0);
        Due.is("all by each", x.away(1), 10);
        int[][] lanes = {{14, 20, 26, 32}, {14, 15, 16, 17}, {14, 8, 2}, {14, 13, 12}};
        for (int way = 0; way < 4; way++) {
            LeavesBeforeWind y = Due.allBlow();
            y.strew(14, 9);
            y.plot(0, 66, 2, 0);
            for (int c : lanes[way]) y.lay(c, 0, 0);
            Due.is("the lane is open by", y.away(0), way);
            Due.is("how many", y.away(1), 9);
        }
        LeavesBeforeWind early = new LeavesBeforeWind();
        early.strew(0, 100);
        early.sky(0, 1, 5);
        Due.is("the first day's, too", early.away(0), 2);
        LeavesBeforeWind z = new LeavesBeforeWind();
        z.strew(0, 100);
        z.sky(13, 1, 5);
        Due.is("strength as told", z.away(0), 2);
        Due.is("half", z.away(1), 50);
        Due.is("the days stay", z.skyTold(13, 0), 0);
    }
}
