/** Promises 18 to 23: what a day does, where leaves lie, what is told of days gone through. */
public final class GoneThroughTest {
    private static final String STILL = "falls 0;blows 0;rots 0;";
    private static final String BY_STRENGTH = "falls 0;blows strong*20;rots 0;";

    public static void main(String[] args) {
        soakedAndDried();
        fallen();
        fallenWet();
        lawOfFalls();
        ways();
        atOnce();
        goOff();
        come();
        dryAndWetByThemselves();
        lawOfBlows();
        rotten();
        covered();
        raked();
        sums();
        great();
        worst();
        corner();
        Due.end();
    }

    private static void lies(String what, LeavesBeforeWind x, int n, int c, int dry, int wet) {
        Due.is(what + ": dry in " + c + " behind " + n, x.lie(n, c, 0), dry);
        Due.is(what + ": wet in " + c + " behind " + n, x.lie(n, c, 1), wet);
    }

    private static void soakedAndDried() {
        LeavesBeforeWind x = Due.under(STILL);
        x.strew(0, 101);
        x.sky(0, 3, 1);
        x.sky(3, 3, 1);
        int[] dry = {101, 0, 50, 75, 0, 50};
        for (int n = 0; n < 6; n++) lies("rain", x, n, 0, dry[n], 101 - dry[n]);
    }

    private static void fallen() {
        LeavesBeforeWind x = Due.under("falls 3;blows 0;rots 0;");
        x.tree(5, 0, 7);
        x.tree(5, 4, 2);
        int[] left = {7, 4, 1, 0, 0};
        int[] lying = {0, 5, 8, 9, 9};
        for (int n = 0; n < 5; n++) {
            Due.is("hang " + n, x.hang(n, 0), left[n]);
            Due.is("hang of the other " + n, x.hang(n, 1), n == 0 ? 2 : 0);
            lies("falls", x, n, 5, lying[n], 0);
        }
    }

    private static void fallenWet() {
        LeavesBeforeWind x = Due.under("falls 3;blows 0;rots 0;");
        x.tree(5, 0, 100);
        x.strew(5, 4);
        x.sky(0, 3, 1);
        lies("soaked, then fallen wet", x, 1, 5, 0, 7);
        lies("half dried, then fallen dry", x, 2, 5, 6, 4);
    }

    private static void lawOfFalls() {
        LeavesBeforeWind x = Due.under("falls left*5+strong+frost*100+wet*300-sort*50+many;blows 0;rots 0;");
        x.tree(7, 1, 20);
        x.tree(8, 0, 999);
        x.sky(0, 1, 7);
        x.sky(0, 2, 1);
        Due.is("20*5+7+100-50: all", x.hang(1, 0), 0);
        Due.is("left of each", x.hang(1, 1), 0);
        LeavesBeforeWind y = Due.under("falls strong+frost*100+wet*300-sort*2+left*0+many;blows 0;rots 0;");
        y.tree(7, 1, 999);
        y.strew(7, 50);
        y.sky(0, 1, 7);
        y.sky(0, 2, 1);
        y.sky(1, 3, 1);
        Due.is("7+100-2", y.hang(1, 0), 894);
        Due.is("300-2", y.hang(2, 0), 596);
        Due.is("-2 is 0", y.hang(3, 0), 596);
        LeavesBeforeWind z = Due.under("falls left-90;blows 0;rots 0;");
        z.tree(0, 0, 100);
        Due.is("left: yet", z.hang(2, 0), 90);
    }

    private static void ways() {
        int[] steps = {6, 1, -6, -1};
        int[] onLawn = {4, 4, 3, 3};
        for (int way = 0; way < 4; way++) {
            LeavesBeforeWind x = Due.allBlow();
            x.strew(14, 10);
            Due.wind(x, way, 0);
            for (int n = 0; n < onLawn[way]; n++) lies("way " + way, x, n, 14 + steps[way] * n, 10, 0);
            for (int w = 0; w < 4; w++) {
                Due.is("not yet off", x.sum(onLawn[way] - 1, 5 + w), 0);
                Due.is("off by " + way, x.sum(onLawn[way], 5 + w), w == way ? 10 : 0);
            }
            Due.is("none lie", x.sum(onLawn[way], 0), 0);
        }
    }

    private static void atOnce() {
        for (int way = 0; way < 4; way++) {
            LeavesBeforeWind x = Due.allBlow();
            int step = new int[] {6, 1, -6, -1}[way];
            x.strew(14, 10);
            x.strew(14 + step, 20);
            Due.wind(x, way, 0);
            lies("at once", x, 1, 14, 0, 0);
            lies("at once", x, 1, 14 + step, 10, 0);
            lies("at once", x, 1, 14 + 2 * step, 20, 0);
        }
    }

    private static void goOff() {
        int[][] cases = {{0, 1, 11}, {1, 1, 5}, {2, 1, 11}, {3, 3, 3}, {3, 9, 5}, {3, 0, 0}, {4, 4, 7}, {4, 20, 0}, {5, 1, 11}};
        for (int[] k : cases) {
            LeavesBeforeWind x = Due.allBlow();
            x.lay(17, k[0], k[1]);
            x.strew(17, 11);
            x.lay(7, k[0], k[1]);
            x.strew(7, 11);
            Due.wind(x, 1, 0);
            Due.is("off of kind " + k[0], x.sum(1, 6), k[2]);
            lies("stay on kind " + k[0], x, 1, 17, 11 - k[2], 0);
            lies("go off kind " + k[0], x, 1, 8, k[2], 0);
            lies("stay on kind " + k[0], x, 1, 7, 11 - k[2], 0);
        }
    }

    private static void come() {
        int[][] cases = {{0, 1, 11}, {1, 1, 11}, {2, 99, 0}, {3, 1, 11}, {4, 1, 11}, {5, 4, 4}, {5, 0, 0}, {5, 99, 11}};
        for (int[] k : cases) {
            LeavesBeforeWind x = Due.allBlow();
            x.lay(8, k[0], k[1]);
            x.strew(7, 11);
            Due.wind(x, 1, 0);
            lies("come to kind " + k[0], x, 1, 8, k[2], 0);
            lies("stay ahead of kind " + k[0], x, 1, 7, 11 - k[2], 0);
        }
    }

    /** 30 dry and 10 wet ones in cell 7, ahead of day 2, whose wind blows all to cell 8. */
    private static LeavesBeforeWind thirtyAndTen(String text) {
        LeavesBeforeWind x = Due.under(text);
        x.strew(7, 40);
        x.sky(0, 3, 1);
        x.sky(2, 0, 1);
        x.sky(2, 1, 5);
        return x;
    }

    private static void dryAndWetByThemselves() {
        int[][] cases = {{7, 1, 0, 15, 5}, {7, 3, 7, 7, 5}, {7, 4, 7, 23, 3}, {8, 5, 7, 7, 7}, {8, 5, 20, 20, 10}};
        for (int[] k : cases) {
            LeavesBeforeWind x = thirtyAndTen(BY_STRENGTH);
            x.lay(k[0], k[1], k[2]);
            lies("kind " + k[1], x, 3, 8, k[3], k[4]);
            lies("kind " + k[1], x, 3, 7, 30 - k[3], 10 - k[4]);
        }
    }

    private static void lawOfBlows() {
        LeavesBeforeWind x = thirtyAndTen("falls 0;blows (strong=5)*(33+wet*16+left+sort);rots 0;");
        lies("33 and 49 of a hundred, cut", x, 3, 8, 9, 4);
        x.tree(35, 5, 9);
        lies("left and sort are no tree's", x, 3, 8, 9, 4);
        LeavesBeforeWind y = thirtyAndTen("falls 0;blows (strong=5)*many;rots 0;");
        lies("40 of a hundred", y, 3, 8, 12, 4);
        LeavesBeforeWind z = thirtyAndTen("falls 0;blows frost*50;rots 0;");
        lies("no frost", z, 3, 8, 0, 0);
        z.sky(2, 2, 1);
        lies("frost", z, 3, 8, 15, 5);
        LeavesBeforeWind fresh = Due.under("falls 10;blows 100;rots 0;");
        fresh.tree(0, 0, 10);
        lies("what falls blows too", fresh, 1, 6, 10, 0);
        LeavesBeforeWind first = new LeavesBeforeWind();
        first.strew(0, 100);
        first.sky(0, 1, 7);
        lies("the law", first, 1, 6, 70, 0);
        first.sky(0, 3, 1);
        lies("the law, wet", first, 1, 6, 0, 10);
    }

    private static void rotten() {
        LeavesBeforeWind x = thirtyAndTen("falls 0;blows 0;rots (strong=5)*(many+wet*9+left+sort);");
        lies("40 and 49 of a hundred, cut", x, 3, 7, 18, 6);
        Due.is("rotten", x.sum(3, 2), 16);
        Due.is("no strength, none", x.sum(2, 2), 0);
        x.tree(35, 5, 9);
        Due.is("left and sort are no tree's", x.sum(3, 2), 16);
        LeavesBeforeWind y = thirtyAndTen("falls 0;blows (strong=5)*100;rots frost*50;");
        y.sky(2, 2, 1);
        lies("they rot where they have blown to", y, 3, 8, 15, 5);
        Due.is("rotten", y.sum(3, 2), 20);
        LeavesBeforeWind z = Due.under("falls 0;blows 0;rots 10;");
        z.strew(0, 100);
        int[] rotten = {0, 10, 19, 27};
        for (int n = 0; n < 4; n++) Due.is("rotten behind " + n, z.sum(n, 2), rotten[n]);
    }

    private static void covered() {
        for (int kind = 0; kind < 6; kind++) {
            LeavesBeforeWind x = Due.under(STILL);
            x.lay(7, kind, 9);
            x.strew(7, 20);
            for (int n = 0; n <= 14; n++) Due.is("covered, kind " + kind, x.lie(n, 7, 2), kind == 0 ? n : 0);
            x.strew(7, 19);
            Due.is("19 don't cover", x.lie(14, 7, 2), 0);
        }
        LeavesBeforeWind both = thirtyAndTen(STILL);
        both.strew(7, 20);
        Due.is("dry and wet", both.lie(14, 7, 2), 14);
        LeavesBeforeWind rots = Due.under("falls 0;blows 0;rots 5;");
        rots.strew(7, 21);
        Due.is("behind the rot", rots.lie(1, 7, 2), 1);
        Due.is("behind the rot", rots.lie(2, 7, 2), 1);
        LeavesBeforeWind blows = Due.allBlow();
        blows.strew(7, 20);
        Due.is("where they have blown from", blows.lie(1, 7, 2), 0);
        Due.is("where they have blown to", blows.lie(1, 13, 2), 1);
        LeavesBeforeWind raked = Due.under(STILL);
        raked.strew(7, 20);
        raked.rake(2);
        Due.is("ahead of raking", raked.lie(14, 7, 2), 2);
    }

    private static void raked() {
        LeavesBeforeWind x = Due.under("falls 3;blows 0;rots 0;");
        x.tree(7, 0, 100);
        x.rake(1 << 1 | 1 << 13);
        Due.is("not yet", x.sum(1, 3), 0);
        Due.is("raked", x.sum(2, 3), 6);
        Due.is("none lie", x.lie(2, 7, 0), 0);
        Due.is("cost", x.sum(2, 4), 42);
        Due.is("raked twice", x.sum(14, 3), 42);
        Due.is("cost twice", x.sum(14, 4), 42 + 36 * 2 + 30);
        Due.is("none lie", x.sum(14, 0), 0);
    }

    private static void sums() {
        LeavesBeforeWind x = thirtyAndTen("falls 10;blows (strong=5)*100;rots (frost=1)*100;");
        x.tree(17, 0, 25);
        x.tree(5, 0, 5);
        x.strew(34, 100);
        x.rake(1 << 3);
        x.sky(4, 2, 1);
        int[] behindThree = {40 + 100, 0, 0, 0, 0, 0, 30, 0, 0};
        for (int what = 0; what < 9; what++) Due.is("sum " + what, x.sum(3, what), behindThree[what]);
        int[] atFirst = {140, 30, 0, 0, 0, 0, 0, 0, 0};
        for (int what = 0; what < 9; what++) Due.is("sum at first " + what, x.sum(0, what), atFirst[what]);
        Due.is("raked", x.sum(4, 3), 140);
        Due.is("the rest lay wet by half, then by a quarter", x.sum(4, 4), rakingOfFour());
        x.rake(0);
        Due.is("rotten", x.sum(5, 2), 140);
        Due.is("none lie", x.sum(5, 0), 0);
    }

    /** Cell 8: 40 less 5 wet ones, cell 35: 100 less 12 wet ones on day 3; from heap 0 they are 3 and 10 away. */
    private static int rakingOfFour() {
        return (35 + 4 * 5) * 3 + (87 + 4 * 13) * 10 + 30;
    }

    private static void great() {
        LeavesBeforeWind x = new LeavesBeforeWind();
        Due.is("none", x.great(0), -1);
        Due.is("none", x.great(1), 0);
        x.tree(0, 0, 300);
        x.tree(35, 1, 300);
        Due.is("like ones", x.great(0), 0);
        Due.is("2 and 1", x.great(1), 3);
        x.sky(5, 2, 1);
        x.sky(9, 2, 1);
        Due.is("frost", x.great(0), 5);
        Due.is("42 and 41", x.great(1), 83);
        x.sky(9, 1, 1);
        Due.is("a later one", x.great(0), 9);
        Due.is("43 and 42", x.great(1), 85);
        x.rake(16383);
        Due.is("raked or not", x.great(1), 85);
        Due.is("BAD", x.great(2), -2);
        Due.is("BAD", x.great(-1), -2);
        LeavesBeforeWind last = Due.under("falls (frost=1)*9;blows 0;rots 0;");
        last.tree(0, 0, 5);
        last.sky(13, 2, 1);
        Due.is("on the last", last.great(0), 13);
        Due.is("no more than hang", last.great(1), 5);
        Due.is("BAD ahead of none", new LeavesBeforeWind().great(2), -2);
    }

    private static void worst() {
        LeavesBeforeWind x = Due.under(STILL);
        Due.is("none", x.worst(14, 0), 0);
        Due.is("none", x.worst(14, 1), 0);
        x.strew(35, 20);
        x.strew(30, 999);
        Due.is("the first of like ones", x.worst(5, 0), 30);
        Due.is("days", x.worst(5, 1), 5);
        x.lay(30, 1, 0);
        Due.is("the last", x.worst(14, 0), 35);
        Due.is("days", x.worst(14, 1), 14);
        Due.is("none in none", x.worst(0, 1), 0);
        Due.is("none in none", x.worst(0, 0), 0);
    }

    private static void corner() {
        LeavesBeforeWind x = Due.under(STILL);
        Due.is("none", x.corner(0, 0), 0);
        x.strew(35, 20);
        x.strew(30, 20);
        x.strew(3, 19);
        x.sky(0, 3, 1);
        Due.is("the first of like ones", x.corner(2, 0), 30);
        Due.is("dry and wet", x.corner(2, 1), 20);
        x.strew(35, 21);
        Due.is("the last", x.corner(14, 0), 35);
        Due.is("how many", x.corner(14, 1), 21);
        x.rake(16383);
        Due.is("none do", x.corner(14, 0), 0);
        Due.is("none do", x.corner(14, 1), 0);
    }
}
