/** Promises 40 to 44: the host's sheets, trees by a sheet, what lies at a place. */
public final class HostTest {
    public static void main(String[] args) {
        sheet();
        cell();
        copy();
        copyOntoItself();
        treesBy();
        treesLeftOut();
        takenCells();
        takenTrees();
        Due.end();
    }

    /** What stands at a place of a sheet of ints, told by a tree's leaves. */
    private static int at(LeavesBeforeWind x, int s, int i) {
        x.sheet(3, 2, 3);
        x.copy(s, i, 3, 2, 1);
        int came = x.treesBy(3, 2, 0, 1);
        if (came != 1) return -1;
        int leaves = x.treeTold(x.count(0) - 1, 2);
        x.fell();
        return leaves;
    }

    private static void sheet() {
        LeavesBeforeWind x = new LeavesBeforeWind();
        for (int sort = 0; sort < 3; sort++) {
            Due.is("0 numbers", x.sheet(sort, sort, 0), 1);
            Due.is("none to change", x.cell(sort, 0, 1), -12);
            Due.is("40 numbers", x.sheet(sort, sort, 40), 1);
            Due.is("the last", x.cell(sort, 39, 1), 1);
            Due.is("behind it", x.cell(sort, 40, 1), -12);
            Due.is("41 numbers", x.sheet(sort, sort, 41), -2);
            Due.is("-1 numbers", x.sheet(sort, sort, -1), -14);
            Due.is("it stays", x.cell(sort, 39, 1), 1);
            Due.is("missing", x.sheet(sort, -1, 99), 1);
            Due.is("missing", x.cell(sort, 0, 1), -11);
            Due.is("missing again", x.sheet(sort, -1, -99), 1);
        }
        x.sheet(0, 2, 36);
        x.cell(0, 7, 5);
        Due.is("told", x.judge(0, 0), 7);
        x.sheet(0, 2, 36);
        Due.is("all 0", x.judge(0, 0), -1);
        Due.is("sheet -1", x.sheet(-1, 0, -1), -2);
        Due.is("sheet 4", x.sheet(4, 0, -1), -2);
        Due.is("sort -2", x.sheet(0, -2, -1), -2);
        Due.is("sort 3", x.sheet(0, 3, -1), -2);
    }

    private static void cell() {
        LeavesBeforeWind x = new LeavesBeforeWind();
        x.sheet(0, 2, 3);
        Due.is("cell", x.cell(0, 0, 5), 1);
        Due.is("it is", at(x, 0, 0), 5);
        Due.is("-1", x.cell(0, -1, 0), -12);
        Due.is("3", x.cell(0, 3, 0), -12);
        Due.is("missing", x.cell(1, 99, 0), -11);
        Due.is("sheet -1", x.cell(-1, 99, 0), -2);
        Due.is("sheet 4", x.cell(4, 99, 0), -2);
    }

    private static void copy() {
        LeavesBeforeWind x = new LeavesBeforeWind();
        x.sheet(0, 2, 5);
        x.sheet(1, 2, 4);
        for (int i = 0; i < 5; i++) x.cell(0, i, 10 + i);
        Due.is("copy", x.copy(0, 2, 1, 0, 3), 3);
        int[] due = {12, 13, 14, 0};
        for (int i = 0; i < 4; i++) Due.is("copied " + i, at(x, 1, i), due[i]);
        for (int i = 0; i < 5; i++) Due.is("from " + i, at(x, 0, i), 10 + i);
        Due.is("none", x.copy(0, 5, 1, 4, 0), 0);
    }

    private static void copyOntoItself() {
        LeavesBeforeWind x = new LeavesBeforeWind();
        x.sheet(0, 2, 5);
        for (int i = 0; i < 5; i++) x.cell(0, i, 10 + i);
        Due.is("on", x.copy(0, 0, 0, 1, 4), 4);
        int[] due = {10, 10, 11, 12, 13};
        for (int i = 0; i < 5; i++) Due.is("on " + i, at(x, 0, i), due[i]);
        Due.is("back", x.copy(0, 1, 0, 0, 4), 4);
        int[] dueBack = {10, 11, 12, 13, 13};
        for (int i = 0; i < 5; i++) Due.is("back " + i, at(x, 0, i), dueBack[i]);
    }

    private static void fill(LeavesBeforeWind x, int sort, int... numbers) {
        x.sheet(0, sort, numbers.length);
        for (int i = 0; i < numbers.length; i++) x.cell(0, i, numbers[i]);
    }

    private static void treesBy() {
        for (int sort = 0; sort < 3; sort++) {
            LeavesBeforeWind x = new LeavesBeforeWind();
            fill(x, sort, 99, 35, 9, 100, 7, 0, 0);
            Due.is("two from place 1 on", x.treesBy(0, sort, 1, 2), 2);
            int[] told = {35, 9, 100, 7, 0, 0};
            for (int k = 0; k < 6; k++) Due.is("tree", x.treeTold(k / 3, k % 3), told[k]);
            Due.is("n 0", x.treesBy(0, sort, 0, 0), 0);
            Due.is("trees", x.count(0), 2);
        }
    }

    private static void treesLeftOut() {
        LeavesBeforeWind x = new LeavesBeforeWind();
        fill(x, 2, 36, 0, 0, 1, 10, 0, 2, 0, 1000, 3, 4, 5);
        Due.is("the last alone", x.treesBy(0, 2, 0, 4), 1);
        Due.is("it is", x.treeTold(0, 0), 3);
        fill(x, 1, 1, 1, 1, 2, 2, 2, 3, 3, 3, 4, 4, 4);
        Due.is("full", x.treesBy(0, 1, 0, 4), 3);
        Due.is("full", x.treesBy(0, 1, 0, 4), 0);
        Due.is("the third came", x.treeTold(3, 0), 3);
        fill(x, 0, 1, 1, 128, 1, 1, 127);
        x.fell();
        Due.is("128 is -128 as a byte", x.treesBy(0, 0, 0, 2), 1);
        Due.is("127", x.treeTold(3, 2), 127);
    }

    private static void takenCells() {
        LeavesBeforeWind x = new LeavesBeforeWind();
        boolean[][] isOne = {
            {true, false, false, false, false, false},
            {true, true, false, false, false, false},
            {true, false, true, false, false, false},
            {true, true, false, true, false, false},
            {true, false, false, false, true, false},
            {true, false, true, false, false, true}};
        for (int kind = 0; kind < 6; kind++) {
            x.lay(35, kind, 0);
            for (int of = 0; of < 6; of++) Due.is(kind + " taken for " + of, x.taken(35, of), isOne[kind][of] ? 35 : -13);
            Due.is(kind + " taken for a tree", x.taken(35, 6), -13);
        }
        Due.is("cell 0", x.taken(0, 0), 0);
        Due.is("kind -1", x.taken(40, -1), -2);
        Due.is("kind 7", x.taken(40, 7), -2);
        Due.is("place -1", x.taken(-1, 6), -12);
        Due.is("place 40", x.taken(40, 6), -12);
    }

    private static void takenTrees() {
        LeavesBeforeWind x = new LeavesBeforeWind();
        Due.is("no tree", x.taken(36, 6), -11);
        Due.is("no tree", x.taken(36, 0), -11);
        x.tree(5, 5, 55);
        x.tree(6, 6, 66);
        Due.is("tree 0", x.taken(36, 6), 55);
        Due.is("tree 1", x.taken(37, 6), 66);
        Due.is("no tree", x.taken(38, 6), -11);
        Due.is("no tree", x.taken(39, 6), -11);
        for (int kind = 0; kind < 6; kind++) Due.is("a tree is no cell", x.taken(36, kind), -13);
    }
}
