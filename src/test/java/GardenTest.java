/** Promises 9 to 17: cells, trees, leaves, raking, heaps. */
public final class GardenTest {
    public static void main(String[] args) {
        lay();
        plot();
        trees();
        fell();
        strew();
        rake();
        heap();
        Due.end();
    }

    private static void lay() {
        LeavesBeforeWind x = new LeavesBeforeWind();
        Due.is("lay", x.lay(35, 5, 99), 0);
        Due.is("lay again", x.lay(35, 3, 0), 5);
        Due.is("kind", x.cellTold(35, 0), 3);
        Due.is("more", x.cellTold(35, 1), 0);
        Due.is("lay(0)", x.lay(0, 1, 7), 0);
        Due.is("more", x.cellTold(0, 1), 7);
        Due.is("others stay", x.cellTold(1, 0), 0);
        Due.is("cell -1", x.lay(-1, 9, 0), -5);
        Due.is("cell 36", x.lay(36, 0, 0), -5);
        Due.is("kind -1", x.lay(0, -1, 0), -7);
        Due.is("kind 6", x.lay(0, 6, 0), -7);
        Due.is("more -1", x.lay(0, 0, -1), -7);
        Due.is("more 100", x.lay(0, 0, 100), -7);
        Due.is("nothing changed", x.cellTold(0, 0), 1);
        Due.is("cellTold -1", x.cellTold(-1, 9), -5);
        Due.is("cellTold 36", x.cellTold(36, 0), -5);
        Due.is("cellTold what -1", x.cellTold(0, -1), -7);
        Due.is("cellTold what 3", x.cellTold(0, 3), -7);
    }

    private static void plot() {
        LeavesBeforeWind x = new LeavesBeforeWind();
        Due.is("2 rows, 3 in each", x.plot(7, 23, 2, 5), 6);
        for (int c = 0; c < 36; c++) {
            boolean in = c >= 7 && c <= 9 || c >= 13 && c <= 15;
            Due.is("plotted " + c, x.cellTold(c, 0), in ? 2 : 0);
            Due.is("plotted more " + c, x.cellTold(c, 1), in ? 5 : 0);
        }
        Due.is("one row of three, cut", x.plot(4, 13, 5, 1), 2);
        int[] cut = {0, 5, 5, 0};
        for (int c = 3; c < 7; c++) Due.is("plotted " + c, x.cellTold(c, 0), cut[c - 3]);
        Due.is("three rows of one, cut", x.plot(25, 31, 3, 1), 2);
        int[] high = {19, 24, 25, 26, 31};
        int[] told = {0, 0, 3, 0, 3};
        for (int k = 0; k < 5; k++) Due.is("plotted " + high[k], x.cellTold(high[k], 0), told[k]);
        Due.is("as far as they are there", x.plot(28, 55, 4, 0), 4);
        Due.is("corner", x.cellTold(35, 0), 4);
        Due.is("not the next row's", x.cellTold(30, 0), 0);
        Due.is("beside", x.cellTold(33, 0), 0);
        Due.is("all", x.plot(0, 66, 1, 1), 36);
        Due.is("one", x.plot(35, 11, 0, 0), 1);
        Due.is("cell -1", x.plot(-1, 11, 9, 0), -2);
        Due.is("cell 36", x.plot(36, 11, 0, 0), -2);
        int[] shapes = {0, 1, 10, 16 + 1, 60, 71, -11, 6, 101, -1};
        for (int shape : shapes) Due.is("shape " + shape, x.plot(0, shape, 9, 0), -2);
        Due.is("kind 6", x.plot(0, 11, 6, 0), -7);
        Due.is("kind -1", x.plot(0, 11, -1, 0), -7);
        Due.is("more 100", x.plot(0, 11, 0, 100), -7);
        Due.is("more -1", x.plot(0, 11, 0, -1), -7);
        Due.is("nothing changed", x.cellTold(0, 0), 1);
    }

    private static void trees() {
        LeavesBeforeWind x = new LeavesBeforeWind();
        Due.is("tree 0", x.tree(35, 9, 999), 0);
        Due.is("tree 1", x.tree(0, 0, 0), 1);
        Due.is("cell -1", x.tree(-1, 0, 0), -2);
        Due.is("cell 36", x.tree(36, 0, 0), -2);
        Due.is("sort -1", x.tree(0, -1, 0), -2);
        Due.is("sort 10", x.tree(0, 10, 0), -2);
        Due.is("leaves -1", x.tree(0, 0, -1), -2);
        Due.is("leaves 1000", x.tree(0, 0, 1000), -2);
        Due.is("tree 2", x.tree(1, 2, 3), 2);
        Due.is("tree 3", x.tree(4, 5, 6), 3);
        Due.is("full", x.tree(0, 0, 0), -4);
        Due.is("BAD ahead of FULL", x.tree(36, 0, 0), -2);
        int[] told = {35, 9, 999, 0, 0, 0, 1, 2, 3, 4, 5, 6};
        for (int k = 0; k < 12; k++) Due.is("treeTold " + k, x.treeTold(k / 3, k % 3), told[k]);
        x.sky(0, 2, 1);
        x.lie(14, 0, 0);
        Due.is("at first", x.treeTold(0, 2), 999);
        Due.is("treeTold -1", x.treeTold(-1, 9), -5);
        Due.is("treeTold 4", x.treeTold(4, 0), -5);
        Due.is("treeTold what -1", x.treeTold(0, -1), -7);
        Due.is("treeTold what 3", x.treeTold(0, 3), -7);
    }

    private static void fell() {
        LeavesBeforeWind x = new LeavesBeforeWind();
        Due.is("none", x.fell(), -3);
        x.tree(1, 1, 1);
        x.tree(2, 2, 2);
        x.image();
        x.tree(3, 3, 3);
        Due.is("HANG", x.sum(0, 1), 6);
        Due.is("the latest", x.fell(), 2);
        Due.is("it is none", x.treeTold(2, 0), -5);
        Due.is("nor hang its leaves", x.sum(0, 1), 3);
        Due.is("no image of it", x.back(), 2);
        Due.is("one of the image's", x.fell(), 1);
        Due.is("no image any more", x.back(), -3);
        x.tree(2, 2, 2);
        Due.is("nor by another tree", x.back(), -3);
        Due.is("fell", x.fell(), 1);
        Due.is("fell", x.fell(), 0);
        Due.is("none any more", x.fell(), -3);
        x.image();
        x.tree(0, 0, 0);
        x.fell();
        Due.is("an image of no trees stays", x.back(), 0);
    }

    private static void strew() {
        LeavesBeforeWind x = new LeavesBeforeWind();
        Due.is("strew", x.strew(35, 999), 0);
        Due.is("strew again", x.strew(35, 5), 999);
        Due.is("told", x.cellTold(35, 2), 5);
        Due.is("lie", x.lie(0, 35, 0), 5);
        Due.is("dry", x.lie(0, 35, 1), 0);
        Due.is("cell -1", x.strew(-1, 1000), -5);
        Due.is("cell 36", x.strew(36, 0), -5);
        Due.is("n -1", x.strew(35, -1), -7);
        Due.is("n 1000", x.strew(35, 1000), -7);
        Due.is("nothing changed", x.strew(35, 0), 5);
    }

    private static void rake() {
        LeavesBeforeWind x = new LeavesBeforeWind();
        Due.is("rake", x.rake(16383), 0);
        Due.is("rake again", x.rake(1), 16383);
        Due.is("BAD 16384", x.rake(16384), -2);
        Due.is("BAD -1", x.rake(-1), -2);
        Due.is("none", x.rake(0), 1);
        Due.is("told", x.count(1), 0);
    }

    private static void heap() {
        LeavesBeforeWind x = new LeavesBeforeWind();
        Due.is("heap", x.heap((1L << 36) - 1), 1);
        Due.is("heap again", x.heap(1L << 35), (1L << 36) - 1);
        Due.is("none", x.heap(0), LeavesBeforeWind.NO);
        Due.is("no such", x.heap(1L << 36), LeavesBeforeWind.NO);
        Due.is("no such among", x.heap(1L << 36 | 1), LeavesBeforeWind.NO);
        Due.is("below 0", x.heap(-1), LeavesBeforeWind.NO);
        Due.is("nothing changed", x.heap(1), 1L << 35);
    }
}
