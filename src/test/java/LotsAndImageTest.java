/** Promises 36 to 39: winds by lot, images. */
public final class LotsAndImageTest {
    public static void main(String[] args) {
        drawn();
        drawnKeepsTheRest();
        drawnKeepsTheTrees();
        odds();
        image();
        imageKeeps();
        imageLeaves();
        Due.end();
    }

    private static LeavesBeforeWind byStrength() {
        LeavesBeforeWind x = Due.under("falls 0;blows strong;rots 0;");
        x.strew(0, 100);
        return x;
    }

    /** SEED 0: lots 48271 (way 3, strong 7), 182605794 (way 2, strong 8); SEED 99999: 532132706 (way 2, strong 6). */
    private static void drawn() {
        LeavesBeforeWind x = byStrength();
        Due.is("none yet", x.drawn(0, 0, 8), 0);
        Due.is("first lot", x.drawn(0, 1, 8), 7);
        Due.is("lie", x.drawn(0, 1, 0), 93);
        Due.is("second lot", x.drawn(0, 2, 7), 7);
        Due.is("lie", x.drawn(0, 2, 0), 86);
        Due.is("the last seed", x.drawn(99999, 1, 7), 6);
        long lot = 12346L;
        LeavesBeforeWind y = byStrength();
        for (int d = 0; d < 14; d++) {
            lot = lot * 48271 % 2147483647L;
            y.sky(d, 0, (int) (lot & 3));
            y.sky(d, 1, (int) ((lot >> 2) % 10));
        }
        for (int what = 0; what < 9; what++) Due.is("all 14, " + what, x.drawn(12345, 14, what), y.sum(14, what));
        Due.is("the days stay", x.skyTold(0, 1), 0);
        Due.is("the days stay", x.sum(14, 0), 100);
    }

    private static void drawnKeepsTheRest() {
        LeavesBeforeWind x = Due.under("falls frost*9;blows 0;rots wet*50;");
        x.tree(7, 0, 99);
        x.sky(0, 2, 1);
        x.sky(1, 3, 1);
        x.rake(4);
        Due.is("frost as told", x.drawn(5, 1, 0), 9);
        Due.is("rain as told", x.drawn(5, 2, 2), 4);
        Due.is("raking as told", x.drawn(5, 3, 3), 4);
        Due.is("what it cost", x.drawn(5, 3, 4), (2 + 4 * 2) * 2 + 30);
    }

    private static void drawnKeepsTheTrees() {
        LeavesBeforeWind x = Due.under("falls sort;blows 0;rots 0;");
        x.tree(7, 3, 99);
        x.tree(8, 4, 5);
        Due.is("each by its sort", x.drawn(5, 1, 0), 7);
        Due.is("no more than hang", x.drawn(5, 2, 0), 11);
        Due.is("hang yet", x.drawn(5, 2, 1), 93);
    }

    private static void odds(LeavesBeforeWind x, int seed, int seeds, int most, long above, long below) {
        Due.is("odds above", x.odds(seed, seeds, most, 0), above);
        Due.is("odds below", x.odds(seed, seeds, most, 1), below);
    }

    private static void odds() {
        LeavesBeforeWind x = byStrength();
        odds(x, 0, 10, 9999, 1, 1);
        odds(x, 0, 10, 0, 0, 1);
        odds(x, 99999, 10, 100, 1, 1);
        int[] lie = new int[10];
        for (int k = 0; k < 10; k++) lie[k] = x.drawn(100 + k, 14, 0);
        for (int most = 20; most < 100; most += 5) {
            int fitting = 0;
            for (int k = 0; k < 10; k++) {
                if (lie[k] <= most) fitting++;
            }
            int divisor = fitting == 0 ? 10 : fitting % 10 == 0 ? 10 : fitting == 5 ? 5 : fitting % 2 == 0 ? 2 : 1;
            odds(x, 100, 10, most, fitting / divisor, 10 / divisor);
        }
        odds(x, 100, 1, lie[0], 1, 1);
        odds(x, 100, 1, lie[0] - 1, 0, 1);
        int other = LeavesBeforeWind.NONE;
        for (int k = 0; k < 4; k++) other = Math.max(other, lie[k]);
        odds(x, 100, 4, other, 1, 1);
    }

    private static void image() {
        LeavesBeforeWind x = new LeavesBeforeWind();
        Due.is("none", x.back(), -3);
        Due.is("image", x.image(), 0);
        x.tree(0, 0, 1);
        x.tree(0, 0, 2);
        Due.is("image", x.image(), 2);
        x.tree(0, 0, 3);
        Due.is("back", x.back(), 2);
        Due.is("trees that came since", x.treeTold(2, 0), -5);
        Due.is("back again", x.back(), 2);
        Due.is("the first image is no more", x.treeTold(1, 2), 2);
    }

    private static void imageKeeps() {
        LeavesBeforeWind x = new LeavesBeforeWind();
        Due.text(x, "falls 5;blows 0;rots 0;");
        for (int d = 0; d < 14; d++) {
            for (int what = 0; what < 4; what++) x.sky(d, what, 1);
        }
        x.plot(0, 66, 3, 7);
        for (int c = 0; c < 36; c++) x.strew(c, 100 + c);
        x.rake(77);
        x.heap(88);
        x.force(1);
        x.image();
        for (int d = 0; d < 14; d++) {
            for (int what = 0; what < 4; what++) x.sky(d, what, 0);
        }
        x.plot(0, 66, 4, 8);
        for (int c = 0; c < 36; c++) x.strew(c, 0);
        x.rake(5);
        x.heap(6);
        x.force(0);
        x.tree(3, 3, 3);
        Due.is("back", x.back(), 0);
        for (int d = 0; d < 14; d++) {
            for (int what = 0; what < 4; what++) Due.is("sky " + d + " " + what, x.skyTold(d, what), 1);
        }
        for (int c = 0; c < 36; c++) {
            Due.is("kind " + c, x.cellTold(c, 0), 3);
            Due.is("more " + c, x.cellTold(c, 1), 7);
            Due.is("leaves " + c, x.cellTold(c, 2), 100 + c);
        }
        Due.is("trees", x.count(0), 0);
        Due.is("raking", x.count(1), 77);
        Due.is("heaps", x.heap(1), 88);
        Due.is("law", x.count(3), 1);
        Due.is("back", x.back(), 0);
        Due.is("an image doesn't change with what is told", x.heap(1), 88);
    }

    private static void imageLeaves() {
        LeavesBeforeWind x = new LeavesBeforeWind();
        x.image();
        Due.text(x, "falls 5;blows 0;rots 0;");
        x.feed(3, 32, 32, 32, 32, 32);
        Due.look(x, 0, 2, 5, 9);
        x.force(1);
        x.back();
        Due.is("texts stay", x.count(2), 2);
        Due.is("the tape stays", x.count(4), 3);
        Due.is("sheets stay", x.judge(0, 0), 5);
        Due.is("the law doesn't", x.count(3), 0);
    }
}
