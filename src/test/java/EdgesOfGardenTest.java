/** Promises 9 to 17: a test for each sentence that names an edge or a refusal. */
public final class EdgesOfGardenTest {
    public static void main(String[] args) throws ReflectiveOperationException {
        Due.everySentence(EdgesOfGardenTest.class);
    }

    /** "-5: no such CELL", ahead of KIND and MORE. */
    private static void promise9NoSuchCell() {
        Refusal.is(-5, "lay(-1, 0, 0)", "lay(36, 0, 0)", "lay(MIN, 0, 0)", "lay(MAX, 0, 0)", "lay(36, 6, 0)", "lay(-1, 0, 100)", "lay(36, -1, -1)");
    }

    /** "-7: KIND". */
    private static void promise9NoSuchKind() {
        Refusal.is(-7, "lay(0, -1, 0)", "lay(35, 6, 0)", "lay(7, MIN, 0)", "lay(7, MAX, 0)");
    }

    /** "-7: MORE" (0 .. 99), of every KIND. */
    private static void promise9NoSuchMore() {
        for (int kind = 0; kind < 6; kind++) Refusal.is(-7, "lay(7, " + kind + ", -1)", "lay(7, " + kind + ", 100)");
        Refusal.is(-7, "lay(7, 3, MIN)", "lay(7, 3, MAX)");
    }

    /** "A CELL becomes one of a KIND with MORE: the KIND that it was": the first and the last CELL, the least and the most. */
    private static void promise9LeastAndMost() {
        for (int c = 0; c < 36; c += 35) {
            LeavesBeforeWind x = new LeavesBeforeWind();
            Due.is("was GRASS", x.lay(c, 5, 99), 0);
            Due.is("KIND", x.cellTold(c, 0), 5);
            Due.is("MORE", x.cellTold(c, 1), 99);
            Due.is("was HEDGE", x.lay(c, 0, 0), 5);
            Due.is("KIND", x.cellTold(c, 0), 0);
            Due.is("MORE", x.cellTold(c, 1), 0);
        }
    }

    /** "one of a KIND with MORE": each KIND keeps the MORE that is told, also one that it makes nothing of; plot() "likewise". */
    private static void promise9EveryKindKeepsMore() {
        LeavesBeforeWind x = new LeavesBeforeWind();
        for (int kind = 0; kind < 6; kind++) {
            for (int more : new int[] {0, 1, 98, 99}) {
                x.lay(7, kind, more);
                x.plot(28, 11, kind, more);
                for (int c = 7; c < 29; c += 21) {
                    Due.is("KIND " + kind, x.cellTold(c, 0), kind);
                    Due.is("MORE of KIND " + kind, x.cellTold(c, 1), more);
                }
            }
        }
    }

    /** "BAD: CELL", ahead of -7. */
    private static void promise10BadCell() {
        Refusal.is(-2, "plot(-1, 11, 1, 1)", "plot(36, 11, 1, 1)", "plot(MIN, 11, 1, 1)", "plot(MAX, 11, 1, 1)", "plot(36, 11, 6, 100)");
    }

    /** "BAD: shape" (rows, and how many in each, 1 .. 6 both): any number else. */
    private static void promise10BadShape() {
        LeavesBeforeWind x = new LeavesBeforeWind();
        for (int shape = -70; shape < 130; shape++) {
            int rows = shape / 10, columns = shape % 10;
            boolean is = rows >= 1 && rows <= 6 && columns >= 1 && columns <= 6;
            Due.is("plot(0, " + shape + ", 1, 1)", x.plot(0, shape, 1, 1), is ? rows * columns : -2);
        }
        Refusal.is(-2, "plot(0, 0, 1, 1)", "plot(0, 10, 1, 1)", "plot(0, 1, 1, 1)", "plot(0, 17, 1, 1)", "plot(0, 71, 1, 1)", "plot(0, -11, 1, 1)",
                "plot(0, MIN, 1, 1)", "plot(0, MAX, 1, 1)", "plot(0, 77, 6, 100)");
    }

    /** "-7: KIND, MORE". */
    private static void promise10NoSuchKindOrMore() {
        Refusal.is(-7, "plot(0, 66, -1, 0)", "plot(35, 11, 6, 0)", "plot(0, 11, 0, -1)", "plot(0, 11, 5, 100)", "plot(0, 11, MIN, 0)",
                "plot(0, 11, 0, MAX)");
    }

    /** "all CELLS from one on to greater x and y, as far as they are there: how many": from each CELL, every shape. */
    private static void promise10AsFarAsTheyAreThere() {
        for (int c = 0; c < 36; c++) {
            for (int rows = 1; rows < 7; rows++) {
                for (int columns = 1; columns < 7; columns++) plotted(c, rows, columns);
            }
        }
    }

    private static void plotted(int c, int rows, int columns) {
        LeavesBeforeWind x = new LeavesBeforeWind();
        String call = "plot(" + c + ", " + (10 * rows + columns) + ", 4, 99)";
        int many = Math.min(rows, 6 - c / 6) * Math.min(columns, 6 - c % 6);
        Due.is(call, x.plot(c, 10 * rows + columns, 4, 99), many);
        for (int i = 0; i < 36; i++) {
            boolean in = i / 6 >= c / 6 && i / 6 < c / 6 + rows && i % 6 >= c % 6 && i % 6 < c % 6 + columns;
            Due.is(call + ": KIND of " + i, x.cellTold(i, 0), in ? 4 : 0);
            Due.is(call + ": MORE of " + i, x.cellTold(i, 1), in ? 99 : 0);
        }
    }

    /** "-5: no such CELL", ahead of what. */
    private static void promise11NoSuchCell() {
        Refusal.is(-5, "cellTold(-1, 0)", "cellTold(36, 0)", "cellTold(MIN, 0)", "cellTold(MAX, 2)", "cellTold(36, 3)", "cellTold(-1, -1)");
    }

    /** "-7: what". */
    private static void promise11NoSuchWhat() {
        Refusal.is(-7, "cellTold(0, -1)", "cellTold(35, 3)", "cellTold(0, MIN)", "cellTold(0, MAX)");
    }

    /** "LEAVES at first": not those that lie there behind DAYS. */
    private static void promise11LeavesAtFirst() {
        LeavesBeforeWind x = Due.allBlow();
        x.strew(35, 999);
        Due.is("all blow off", x.lie(14, 35, 0), 0);
        Due.is("LEAVES at first", x.cellTold(35, 2), 999);
    }

    /** "BAD": CELL, SORT, how many HANG. */
    private static void promise12Bad() {
        Refusal.is(-2, "tree(-1, 0, 0)", "tree(36, 0, 0)", "tree(MIN, 0, 0)", "tree(MAX, 0, 0)", "tree(0, -1, 0)", "tree(0, 10, 0)", "tree(0, MIN, 0)",
                "tree(0, MAX, 0)", "tree(0, 0, -1)", "tree(0, 0, 1000)", "tree(0, 0, MIN)", "tree(0, 0, MAX)");
    }

    /** "FULL": a fifth TREE. */
    private static void promise12Full() {
        Refusal.behind("tree(0, 0, 0)", -4, "tree(0, 0, 0)", "tree(35, 9, 999)");
    }

    /** "REFUSALS, of several the first one told": BAD ahead of FULL. */
    private static void promise12BadAheadOfFull() {
        Refusal.behind("tree(0, 0, 0)", -2, "tree(36, 0, 0)", "tree(0, 10, 0)", "tree(0, 0, 1000)");
    }

    /** "A TREE (CELL, SORT, how many HANG): its number": the least and the most of each. */
    private static void promise12LeastAndMost() {
        LeavesBeforeWind x = new LeavesBeforeWind();
        Due.is("the least", x.tree(0, 0, 0), 0);
        Due.is("the most", x.tree(35, 9, 999), 1);
        int[] told = {0, 0, 0, 35, 9, 999};
        for (int k = 0; k < 6; k++) Due.is("treeTold " + k, x.treeTold(k / 3, k % 3), told[k]);
        Due.is("two on one CELL", x.tree(35, 9, 999), 2);
        Due.is("HANG", x.sum(0, 1), 1998);
    }

    /** "-5: no such TREE", ahead of what: also the one behind the last. */
    private static void promise13NoSuchTree() {
        Refusal.is(-5, "treeTold(-1, 0)", "treeTold(3, 0)", "treeTold(4, 0)", "treeTold(MIN, 0)", "treeTold(MAX, 0)", "treeTold(3, 3)", "treeTold(-1, -1)");
        Refusal.behind("fell()", -5, "treeTold(2, 0)");
        Refusal.behind("tree(0, 0, 0)", -5, "treeTold(4, 0)");
        Due.is("none yet", new LeavesBeforeWind().treeTold(0, 0), -5);
    }

    /** "-7: what". */
    private static void promise13NoSuchWhat() {
        Refusal.is(-7, "treeTold(0, -1)", "treeTold(2, 3)", "treeTold(0, MIN)", "treeTold(0, MAX)");
    }

    /** "how many HANG at first": not those that HANG behind DAYS. */
    private static void promise13HangAtFirst() {
        LeavesBeforeWind x = Due.under("falls 999;blows 0;rots 0;");
        x.tree(35, 9, 999);
        Due.is("all fall", x.hang(14, 0), 0);
        Due.is("HANG at first", x.treeTold(0, 2), 999);
    }

    /** "STATE: there is none." */
    private static void promise14None() {
        Refusal.behind("fell(); fell(); fell()", -3, "fell()");
        Due.is("none yet", new LeavesBeforeWind().fell(), -3);
    }

    /** "The latest TREE is none any more: how many there are": down to none. */
    private static void promise14DownToNone() {
        LeavesBeforeWind x = new LeavesBeforeWind();
        for (int t = 0; t < 4; t++) x.tree(t, t, 10 + t);
        for (int left = 3; left >= 0; left--) {
            Due.is("how many there are", x.fell(), left);
            Due.is("count", x.count(0), left);
            Due.is("the latest is none", x.treeTold(left, 0), -5);
            if (left > 0) Due.is("the one ahead of it is", x.treeTold(left - 1, 2), 9 + left);
            Due.is("HANG on the others", x.sum(0, 1), 10 * left + left * (left - 1) / 2);
            Due.is("none hang on it", x.hang(0, left), -5);
            Due.is("its place has nothing", x.taken(36 + left, 6), -11);
        }
    }

    /** "(nor is there an IMAGE that has it)". */
    private static void promise14ImageThatHasIt() {
        LeavesBeforeWind x = new LeavesBeforeWind();
        x.tree(0, 0, 1);
        x.tree(1, 0, 2);
        x.image();
        x.fell();
        Due.is("there is no IMAGE", x.back(), -3);
        x.tree(1, 0, 2);
        Due.is("nor behind a new TREE", x.back(), -3);
        Due.is("till one is kept", x.image(), 2);
        Due.is("back", x.back(), 2);
    }

    /** "(nor is there an IMAGE that has it)": one that hasn't stays. */
    private static void promise14ImageThatHasItNot() {
        LeavesBeforeWind x = new LeavesBeforeWind();
        x.tree(0, 0, 1);
        x.image();
        x.tree(1, 0, 2);
        x.fell();
        Due.is("the IMAGE stays", x.back(), 1);
        LeavesBeforeWind none = new LeavesBeforeWind();
        none.image();
        none.tree(1, 0, 2);
        none.fell();
        Due.is("one of no TREES stays", none.back(), 0);
        Due.is("STATE: no TREE", none.fell(), -3);
        Due.is("a refused call takes no IMAGE", none.back(), 0);
    }

    /** "-5: no such CELL", ahead of n. */
    private static void promise15NoSuchCell() {
        Refusal.is(-5, "strew(-1, 0)", "strew(36, 0)", "strew(MIN, 0)", "strew(MAX, 999)", "strew(36, 1000)", "strew(-1, -1)");
    }

    /** "-7: n" (0 .. 999). */
    private static void promise15NoSuchN() {
        Refusal.is(-7, "strew(0, -1)", "strew(35, 1000)", "strew(0, MIN)", "strew(0, MAX)");
    }

    /** "LEAVES of a CELL at first become n (0 .. 999): how many were". */
    private static void promise15LeastAndMost() {
        for (int c = 0; c < 36; c += 35) {
            LeavesBeforeWind x = new LeavesBeforeWind();
            Due.is("none were", x.strew(c, 999), 0);
            Due.is("the most", x.lie(0, c, 0), 999);
            Due.is("999 were", x.strew(c, 0), 999);
            Due.is("the least", x.sum(0, 0), 0);
            Due.is("none were", x.strew(c, 1), 0);
        }
    }

    /** "BAD.": no set of DAYS. */
    private static void promise16Bad() {
        Refusal.is(-2, "rake(-1)", "rake(16384)", "rake(16385)", "rake(MIN)", "rake(MAX)");
    }

    /** "RAKING becomes set (bits): what it was": none, the first DAY, the last, all. */
    private static void promise16LeastAndMost() {
        LeavesBeforeWind x = new LeavesBeforeWind();
        int[] sets = {0, 1, 8192, 16383, 0};
        for (int k = 1; k < 5; k++) {
            Due.is("what it was", x.rake(sets[k]), sets[k - 1]);
            Due.is("what it is", x.count(1), sets[k]);
        }
    }

    /** "NO: none". */
    private static void promise17None() {
        Refusal.is(Refusal.NO, "heap(0)");
    }

    /** "NO: no such CELLS". */
    private static void promise17NoSuchCells() {
        Refusal.is(Refusal.NO, "heap(68719476736)", "heap(68719476737)", "heap(-1)", "heap(MIN)", "heap(MAX)", "heap(-4611686018427387904)");
    }

    /** "HEAPS become set (bits): which were": each CELL alone, all, the most and the least; beyond 32 bits, too. */
    private static void promise17LeastAndMost() {
        LeavesBeforeWind x = new LeavesBeforeWind();
        for (int c = 0; c < 36; c++) Due.is("which were", x.heap(1L << c), c == 0 ? 1 : 1L << c - 1);
        Due.is("the last", x.heap((1L << 36) - 1), 1L << 35);
        Due.is("all", x.heap(1), (1L << 36) - 1);
        for (int c = 0; c < 36; c++) {
            LeavesBeforeWind y = new LeavesBeforeWind();
            y.strew(c, 1);
            y.heap(1L << c);
            Due.is("on its own CELL", y.raking(0), 30);
        }
    }
}
