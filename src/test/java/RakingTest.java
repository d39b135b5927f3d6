/** Promises 24 to 27: what raking costs, on which days, onto which heaps. */
public final class RakingTest {
    private static final String STILL = "falls 0;blows 0;rots 0;";
    private static final String FIVE_FALL = "falls 5;blows 0;rots 0;";

    public static void main(String[] args) {
        leastOfSets();
        leastOfLikeOnes();
        leastOfAllCells();
        thrice();
        thriceByDay();
        oneHeap();
        twoHeaps();
        whereBehindDays();
        raking();
        Due.end();
    }

    private static void least(LeavesBeforeWind x, int most, int set, int price) {
        Due.is("least " + most, x.least(most, 0), set);
        Due.is("least " + most + " costs", x.least(most, 1), price);
    }

    /** Five fall a day, two cells from the heap: 20 lie from day 3 on, then again on the fourth day behind a raking. */
    private static void leastOfSets() {
        LeavesBeforeWind x = Due.under(FIVE_FALL);
        x.tree(7, 0, 999);
        x.rake(16383);
        least(x, 14, 0, 0);
        least(x, 11, 0, 0);
        least(x, 10, 1 << 3, 70);
        least(x, 8, 1 << 3, 70);
        least(x, 7, 1 << 3 | 1 << 6, 130);
        least(x, 5, 1 << 3 | 1 << 6, 130);
        least(x, 4, 1 << 3 | 1 << 6 | 1 << 10, 200);
        least(x, 2, 1 << 3 | 1 << 6 | 1 << 10, 200);
        least(x, 1, -1, -1);
        least(x, 0, -1, -1);
        Due.is("RAKING stays", x.count(1), 16383);
    }

    private static void leastOfLikeOnes() {
        LeavesBeforeWind x = Due.under(STILL);
        x.strew(0, 20);
        least(x, 14, 0, 0);
        least(x, 13, 1 << 3, 30);
        least(x, 4, 1 << 3, 30);
        least(x, 3, -1, -1);
        x.sky(3, 3, 1);
        x.heap(2);
        Due.is("all wet on day 3, 3 yet on day 6, 1 on day 10", x.least(13, 0), 1 << 10);
        Due.is("19 dry ones, 1 wet one", x.least(13, 1), 19 + 4 + 30);
        LeavesBeforeWind late = Due.under("falls (frost=1)*20;blows 0;rots 0;");
        late.tree(0, 0, 20);
        late.sky(11, 2, 1);
        least(late, 3, 0, 0);
        least(late, 2, -1, -1);
        late.sky(11, 2, 0);
        late.sky(12, 2, 1);
        late.strew(35, 20);
        Due.is("day 13 rakes what none other does", late.least(4, 0), 1 << 3);
    }

    private static void leastOfAllCells() {
        LeavesBeforeWind x = Due.under(STILL);
        x.strew(0, 20);
        x.strew(35, 20);
        least(x, 13, 1 << 3, 20 * 10 + 30);
        x.plot(0, 66, 1, 0);
        least(x, 0, 0, 0);
    }

    private static void thrice() {
        LeavesBeforeWind x = Due.under(FIVE_FALL);
        Due.is("nothing falls", x.thrice(), 0);
        x.tree(7, 0, 999);
        Due.is("80 and 80 and 70 less 170", x.thrice(), 60);
        x.rake(16383);
        Due.is("RAKING doesn't matter", x.thrice(), 60);
        Due.is("RAKING stays", x.count(1), 16383);
        LeavesBeforeWind y = Due.under(STILL);
        y.strew(7, 10);
        y.sky(13, 3, 1);
        Due.is("50 less 110", y.thrice(), -60);
        y.heap(1L << 7);
        Due.is("30 less 30", y.thrice(), 0);
    }

    /** One day's frost tells on which days is raked: ahead of which leaves fall, behind which they are rotten. */
    private static void thriceByDay() {
        for (int d = 0; d < 13; d++) {
            LeavesBeforeWind falls = Due.under("falls (frost=1)*20;blows 0;rots 0;");
            falls.tree(7, 0, 40);
            falls.sky(d, 2, 1);
            falls.sky(13, 2, 1);
            Due.is("20 fall on day " + d + ", 20 on day 13", falls.thrice(), d <= 9 ? 30 : 0);
            LeavesBeforeWind rots = Due.under("falls 0;blows 0;rots (frost=1)*100;");
            rots.strew(7, 20);
            rots.sky(d, 2, 1);
            Due.is("20 rot on day " + d, rots.thrice(), d <= 4 ? 0 : 70);
        }
    }

    private static void where(LeavesBeforeWind x, int heap, int price, int two, int priceOfTwo) {
        int[] due = {heap, price, two, priceOfTwo};
        for (int what = 0; what < 4; what++) Due.is("where " + what, x.where(0, what), due[what]);
    }

    private static void oneHeap() {
        LeavesBeforeWind x = new LeavesBeforeWind();
        where(x, 0, 0, 1, 0);
        x.strew(35, 3);
        where(x, 35, 30, 35, 30);
        x.strew(34, 4);
        Due.is("where more lie", x.where(0, 0), 34);
        Due.is("3 go one", x.where(0, 1), 33);
        x.strew(34, 3);
        Due.is("the first of like ones", x.where(0, 0), 34);
    }

    private static void twoHeaps() {
        LeavesBeforeWind x = new LeavesBeforeWind();
        x.strew(0, 10);
        x.strew(35, 10);
        where(x, 0, 130, 35, 60);
        LeavesBeforeWind near = new LeavesBeforeWind();
        near.strew(0, 3);
        near.strew(1, 3);
        where(near, 0, 33, 2, 33);
        LeavesBeforeWind far = new LeavesBeforeWind();
        far.strew(14, 999);
        far.strew(33, 999);
        where(far, 14, 4 * 999 + 30, 1433, 60);
    }

    private static void whereBehindDays() {
        LeavesBeforeWind x = Due.under(STILL);
        x.strew(0, 2);
        x.strew(1, 5);
        Due.is("dry ones", x.where(1, 0), 1);
        x.strew(0, 3);
        x.strew(1, 2);
        x.sky(0, 3, 1);
        x.heap(1L << 35);
        Due.is("wet ones", x.where(1, 0), 0);
        Due.is("2 wet ones go one", x.where(1, 1), 38);
        Due.is("half of two dries", x.where(2, 1), 35);
        x.rake(2);
        Due.is("raked", x.where(2, 1), 0);
        Due.is("raked", x.where(2, 0), 0);
    }

    private static void raking() {
        LeavesBeforeWind x = Due.under(STILL);
        Due.is("none lie", x.raking(0), 0);
        x.strew(0, 9);
        Due.is("on its own cell", x.raking(0), 30);
        x.strew(14, 5);
        Due.is("5 go four", x.raking(0), 50);
        x.sky(0, 3, 1);
        Due.is("wet", x.raking(1), 110);
        x.heap(1L | 1L << 35);
        Due.is("nearest", x.raking(1), 110);
        x.strew(5, 10);
        Due.is("of like ones the first", x.raking(0), 20 + 50 + 30);
        x.strew(11, 1);
        Due.is("another heap", x.raking(0), 20 + 50 + 4 + 60);
        x.heap((1L << 36) - 1);
        Due.is("each its own", x.raking(0), 120);
        x.heap(1L << 30);
        Due.is("y and x", x.raking(0), 9 * 5 + 5 * 5 + 10 * 10 + 9 + 30);
        x.rake(1);
        Due.is("raked", x.raking(1), 0);
    }
}
