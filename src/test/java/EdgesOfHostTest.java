/** Promises 40 to 44: a test for each sentence that names an edge or a refusal. */
public final class EdgesOfHostTest {
    public static void main(String[] args) throws ReflectiveOperationException {
        Due.everySentence(EdgesOfHostTest.class);
    }

    /** "BAD: SHEET", ahead of the others, also where it would be missing. */
    private static void promise40NoSuchSheet() {
        Refusal.is(-2, "sheet(-1, 0, 1)", "sheet(4, 0, 1)", "sheet(MIN, 0, 1)", "sheet(MAX, 0, 1)", "sheet(4, 0, -1)", "sheet(-1, -1, 0)");
    }

    /** "BAD: sort", ahead of -14. */
    private static void promise40NoSuchSort() {
        Refusal.is(-2, "sheet(0, -2, 1)", "sheet(0, 3, 1)", "sheet(0, MIN, 1)", "sheet(0, MAX, 1)", "sheet(0, 3, -1)", "sheet(0, -2, -1)");
    }

    /** "BAD: n above 40". */
    private static void promise40AboveForty() {
        for (int sort = 0; sort < 3; sort++) Refusal.is(-2, "sheet(0, " + sort + ", 41)", "sheet(3, " + sort + ", MAX)");
    }

    /** "-14" (a size below 0). */
    private static void promise40BelowZero() {
        for (int sort = 0; sort < 3; sort++) Refusal.is(-14, "sheet(0, " + sort + ", -1)", "sheet(3, " + sort + ", MIN)");
    }

    /** "or missing (sort -1: n does not matter): 1": of any n; of a missing one, too. */
    private static void promise40MissingWhateverN() {
        for (int n : new int[] {0, 40, 41, -1, Integer.MIN_VALUE, Integer.MAX_VALUE}) {
            for (int s = 0; s < 4; s++) {
                LeavesBeforeWind x = Refusal.twin("");
                Due.is("sheet", x.sheet(s, -1, n), 1);
                Due.is("missing", x.cell(s, 0, 0), -11);
                Due.is("again", x.sheet(s, -1, n), 1);
            }
        }
    }

    /** "A SHEET becomes a row of n of a sort": 0, 1, 39, 40 of each sort; each SHEET. */
    private static void promise40NoneToForty() {
        for (int s = 0; s < 4; s++) {
            for (int sort = 0; sort < 3; sort++) {
                LeavesBeforeWind x = Refusal.twin("");
                for (int n : new int[] {0, 1, 39, 40}) {
                    Due.is("sheet", x.sheet(s, sort, n), 1);
                    if (n > 0) Due.is("the last", x.cell(s, n - 1, 1), 1);
                    Due.is("behind it", x.cell(s, n, 1), -12);
                    Due.is("its sort", x.treesBy(s, sort, 0, 0), 0);
                    Due.is("another sort", x.treesBy(s, (sort + 1) % 3, 0, 0), -13);
                }
            }
        }
    }

    /** "all 0": whatever stood in it, be it longer, shorter, as long, of another sort. */
    private static void promise40AllZero() {
        for (int was : new int[] {36, 40}) {
            for (int sort = 0; sort < 3; sort++) {
                LeavesBeforeWind x = new LeavesBeforeWind();
                x.sheet(0, (sort + 1) % 3, was);
                for (int i = 0; i < was; i++) x.cell(0, i, 7);
                x.sheet(0, sort, 1);
                x.sheet(0, sort, 36);
                Due.is("as where none lie", x.judge(0, 0), -1);
            }
        }
    }

    /** "BAD: SHEET", ahead of the others. */
    private static void promise41NoSuchSheet() {
        Refusal.is(-2, "cell(-1, 0, 1)", "cell(4, 0, 1)", "cell(MIN, 0, 1)", "cell(MAX, 0, 1)", "cell(4, -1, 1)");
    }

    /** "-11", ahead of -12. */
    private static void promise41NothingThere() {
        Refusal.is(-11, "cell(3, 0, 1)", "cell(3, -1, 1)", "cell(3, 40, 1)");
    }

    /** "-12": below 0, and from the size on; of an empty one every place. */
    private static void promise41Outside() {
        Refusal.is(-12, "cell(0, -1, 1)", "cell(0, 36, 1)", "cell(1, 3, 1)", "cell(2, 40, 1)", "cell(0, MIN, 1)", "cell(0, MAX, 1)");
        Refusal.behind("sheet(3, 2, 0)", -12, "cell(3, 0, 1)", "cell(3, -1, 1)");
    }

    /** What stands at a place of a row of ints: told by judge(), as the leaves of its CELL. */
    private static void stands(String call, LeavesBeforeWind x, int s, int c, int due) {
        boolean leaves = due >= 0 && due < 1000;
        if (leaves) x.strew(c, due);
        Due.is(call, x.judge(s, 0), leaves ? -1 : c);
        x.strew(c, 0);
    }

    /** "Number i of a SHEET becomes v": the first and the last; of ints any. */
    private static void promise41FirstAndLast() {
        for (int i = 0; i < 36; i += 35) {
            LeavesBeforeWind x = new LeavesBeforeWind();
            x.sheet(0, 2, 36);
            for (int v : new int[] {999, -1, Integer.MIN_VALUE, Integer.MAX_VALUE, 256, 65536, 0}) {
                Due.is("cell", x.cell(0, i, v), 1);
                stands("int " + v, x, 0, i, v);
            }
        }
    }

    /** "(of bytes, shorts its lowest 8, 16 bits)": wrapping around, at the last numbers that a sort has and the next. */
    private static void promise41LowestBits() {
        int[] v = {0, 127, 128, 255, 256, 256 + 127, -256, -1, 32767, 32768, 65535, 65536, 65536 + 127, Integer.MIN_VALUE, Integer.MAX_VALUE};
        for (int sort = 0; sort < 2; sort++) {
            LeavesBeforeWind x = new LeavesBeforeWind();
            x.sheet(0, sort, 36);
            for (int k : v) {
                Due.is("cell", x.cell(0, 35, k), 1);
                stands("sort " + sort + ": " + k, x, 0, 35, sort == 0 ? (byte) k : (short) k);
            }
        }
    }

    /** "BAD: SHEETS", either, ahead of the others. */
    private static void promise42NoSuchSheets() {
        Refusal.is(-2, "copy(-1, 0, 0, 0, 1)", "copy(4, 0, 0, 0, 1)", "copy(0, 0, -1, 0, 1)", "copy(0, 0, 4, 0, 1)", "copy(MIN, 0, 0, 0, 1)",
                "copy(0, 0, MAX, 0, 1)", "copy(4, 0, 3, 0, -1)", "copy(3, 0, 4, 0, -1)");
    }

    /** "-11", either, ahead of -13 and -12. */
    private static void promise42NothingThere() {
        Refusal.is(-11, "copy(3, 0, 0, 0, 1)", "copy(0, 0, 3, 0, 1)", "copy(3, 0, 3, 0, 0)", "copy(3, -1, 1, 0, -1)", "copy(2, -1, 3, 0, -1)");
    }

    /** "-13: unlike sorts", ahead of -12: each of two sorts. */
    private static void promise42UnlikeSorts() {
        Refusal.is(-13, "copy(0, 0, 1, 0, 1)", "copy(1, 0, 0, 0, 1)", "copy(0, 0, 2, 0, 1)", "copy(2, 0, 0, 0, 1)", "copy(1, 0, 2, 0, 1)",
                "copy(2, 0, 1, 0, 0)", "copy(0, -1, 1, 0, 1)", "copy(0, 0, 1, 99, 1)", "copy(0, 0, 1, 0, -1)");
    }

    /** "-12": from a place outside, or too far; to one; sheet 0 has 36 ints, sheet 3 five. */
    private static void promise42Outside() {
        Refusal.behind("sheet(3, 2, 5)", -12, "copy(0, -1, 3, 0, 1)", "copy(0, 36, 3, 0, 1)", "copy(0, 32, 3, 0, 5)", "copy(3, 0, 0, 0, 6)",
                "copy(0, 0, 3, -1, 1)", "copy(0, 0, 3, 5, 1)", "copy(0, 0, 3, 1, 5)", "copy(0, 0, 3, 0, 6)", "copy(0, 37, 3, 0, 0)", "copy(0, 0, 3, 6, 0)",
                "copy(0, -1, 3, 0, 0)", "copy(0, 0, 3, -1, 0)");
    }

    /** "-12": numbers whose sums would wrap around. */
    private static void promise42OutsideByFar() {
        Refusal.is(-12, "copy(0, MAX, 0, 0, 1)", "copy(0, 0, 0, MAX, 1)", "copy(0, 1, 0, 1, MAX)", "copy(0, 0, 0, 0, MAX)", "copy(0, MAX, 0, MAX, MAX)",
                "copy(0, MIN, 0, 0, 1)", "copy(0, 0, 0, MIN, MIN)", "copy(0, MIN, 0, MIN, MIN)", "copy(0, MAX, 0, MAX, MIN)");
    }

    /** "-12 (n below 0, too)". */
    private static void promise42BelowZero() {
        Refusal.is(-12, "copy(0, 0, 0, 0, -1)", "copy(0, 5, 0, 5, -5)", "copy(0, 0, 0, 0, MIN)", "copy(0, 36, 0, 36, -1)");
    }

    /** "n numbers": none, as far as places go; all. */
    private static void promise42NoneAndAll() {
        LeavesBeforeWind x = Refusal.twin("sheet(3, 2, 36)");
        Due.is("none", x.copy(0, 36, 3, 36, 0), 0);
        Due.is("none", x.copy(0, 0, 3, 0, 0), 0);
        Due.is("none has come", x.judge(3, 0), 0);
        Due.is("all", x.copy(0, 0, 3, 0, 36), 36);
        Due.is("all have come", x.judge(3, 0), -1);
        Due.is("of empty ones none", Refusal.call(Refusal.twin("sheet(3, 2, 0)"), "copy(0, 7, 3, 0, 0)"), 0);
        Due.is("the last one", x.copy(0, 35, 3, 35, 1), 1);
    }

    /** "(or its own) place j (as they were)": onto itself, on and back, by any step. */
    private static void promise42OntoItself() {
        for (int step = 1; step < 36; step++) {
            for (int back = 0; back < 2; back++) {
                LeavesBeforeWind x = new LeavesBeforeWind();
                for (int i = 0; i < 36; i++) x.strew(i, i + 1);
                x.film(0, 0);
                int n = 36 - step, from = back == 1 ? step : 0, to = step - from;
                Due.is("copy", x.copy(0, from, 0, to, n), n);
                for (int i = 0; i < n; i++) x.strew(to + i, from + i + 1);
                Due.is("as they were, by " + step, x.judge(0, 0), -1);
            }
        }
    }

    /** "BAD: SHEET", ahead of the others. */
    private static void promise43NoSuchSheet() {
        Refusal.is(-2, "treesBy(-1, 0, 0, 1)", "treesBy(4, 0, 0, 1)", "treesBy(MIN, 0, 0, 1)", "treesBy(MAX, 0, 0, 1)");
    }

    /** "BAD: sort", ahead of -11: missing is no sort that a SHEET could be of. */
    private static void promise43NoSuchSort() {
        Refusal.is(-2, "treesBy(0, -1, 0, 1)", "treesBy(0, 3, 0, 1)", "treesBy(3, -1, 0, 1)", "treesBy(3, 3, 0, 0)", "treesBy(0, MIN, 0, 1)",
                "treesBy(0, MAX, 0, 1)");
    }

    /** "BAD: n" (0 .. 4), ahead of -11, -13 and -12. */
    private static void promise43NoSuchN() {
        Refusal.is(-2, "treesBy(0, 2, 0, -1)", "treesBy(0, 2, 0, 5)", "treesBy(3, 0, 0, 5)", "treesBy(0, 1, -1, -1)", "treesBy(0, 2, 0, MIN)",
                "treesBy(0, 2, 0, MAX)");
    }

    /** "-11", ahead of -12: of every sort. */
    private static void promise43NothingThere() {
        Refusal.is(-11, "treesBy(3, 0, 0, 1)", "treesBy(3, 1, 0, 1)", "treesBy(3, 2, -1, 1)", "treesBy(3, 2, 0, 0)");
    }

    /** "-13", ahead of -12: sheets 0 to 2 are of sorts 2, 0, 1. */
    private static void promise43AnotherSort() {
        Refusal.is(-13, "treesBy(0, 0, 0, 1)", "treesBy(0, 1, 0, 1)", "treesBy(1, 1, 0, 1)", "treesBy(1, 2, 0, 1)", "treesBy(2, 0, 0, 1)", "treesBy(2, 2, 0, 1)",
                "treesBy(2, 2, -1, 1)", "treesBy(0, 1, 0, 0)");
    }

    /** "-12": the first one's places are outside, be it by one of the three alone: none came. */
    private static void promise43Outside() {
        Refusal.is(-12, "treesBy(0, 2, -1, 1)", "treesBy(0, 2, 36, 1)", "treesBy(0, 2, 35, 1)", "treesBy(0, 2, 34, 1)", "treesBy(1, 0, 1, 1)",
                "treesBy(2, 1, 38, 4)", "treesBy(0, 2, MIN, 1)", "treesBy(0, 2, MAX, 1)", "treesBy(0, 2, MAX, 4)", "treesBy(0, 2, -3, 2)");
        Refusal.behind("sheet(3, 2, 0)", -12, "treesBy(3, 2, 0, 1)");
        Refusal.behind("sheet(3, 0, 2)", -12, "treesBy(3, 0, 0, 1)");
    }

    /** "-12: what stood ahead came": one, two, three ahead of the place outside, by 1 .. 3 places too few. */
    private static void promise43WhatStoodAheadCame() {
        for (int ahead = 1; ahead < 4; ahead++) {
            for (int size = 3 * ahead; size < 3 * ahead + 3; size++) {
                LeavesBeforeWind x = new LeavesBeforeWind();
                x.sheet(0, 1, size + 5);
                for (int k = 0; k < ahead; k++) {
                    x.cell(0, 5 + 3 * k, 30 + k);
                    x.cell(0, 7 + 3 * k, 100 + k);
                }
                Due.is("treesBy", x.treesBy(0, 1, 5, 4), -12);
                Due.is("what stood ahead", x.count(0), ahead);
                for (int k = 0; k < ahead; k++) Due.is("the TREE's CELL", x.treeTold(k, 0), 30 + k);
                for (int k = 0; k < ahead; k++) Due.is("how many HANG on it", x.treeTold(k, 2), 100 + k);
            }
        }
    }

    /** "n of them (0 .. 4): how many came": none; four, with the last three of 40 places. */
    private static void promise43NoneAndFour() {
        LeavesBeforeWind x = new LeavesBeforeWind();
        x.sheet(3, 0, 40);
        Due.is("none", x.treesBy(3, 0, 0, 0), 0);
        Due.is("none have come", x.count(0), 0);
        Due.is("four", x.treesBy(3, 0, 28, 4), 4);
        Due.is("four have come", x.count(0), 4);
    }

    /** "(others are left out)": those that tree() refuses, BAD ones and those for which there is no room. */
    private static void promise43OthersAreLeftOut() {
        int[][] bad = {{-1, 0, 0}, {36, 0, 0}, {0, -1, 0}, {0, 10, 0}, {0, 0, -1}, {0, 0, 1000}};
        for (int[] k : bad) {
            LeavesBeforeWind x = new LeavesBeforeWind();
            x.sheet(0, 2, 6);
            for (int i = 0; i < 3; i++) x.cell(0, i, k[i]);
            x.cell(0, 3, 35);
            x.cell(0, 4, 9);
            x.cell(0, 5, 999);
            Due.is("one of two", x.treesBy(0, 2, 0, 2), 1);
            Due.is("the other one", x.treeTold(0, 2), 999);
            Due.is("no third", x.treeTold(1, 0), -5);
        }
        for (int there = 0; there < 5; there++) {
            LeavesBeforeWind x = new LeavesBeforeWind();
            x.sheet(0, 1, 12);
            for (int t = 0; t < there; t++) x.tree(35, 0, 0);
            Due.is("as there is room", x.treesBy(0, 1, 0, 4), 4 - there);
            Due.is("TREES", x.count(0), 4);
        }
    }

    /** "BAD: kind", ahead of the others. */
    private static void promise44NoSuchKind() {
        Refusal.is(-2, "taken(0, -1)", "taken(0, 7)", "taken(40, 7)", "taken(-1, -1)", "taken(39, 7)", "taken(0, MIN)", "taken(0, MAX)");
    }

    /** "-12: i". */
    private static void promise44Outside() {
        Refusal.is(-12, "taken(-1, 0)", "taken(40, 6)", "taken(MIN, 0)", "taken(MAX, 6)", "taken(40, 0)", "taken(-1, 6)");
    }

    /** "-11: nothing lies there", whatever it is taken for: the place of a TREE that is none. */
    private static void promise44NothingThere() {
        for (int kind = 0; kind < 7; kind++) Refusal.is(-11, "taken(39, " + kind + ")");
        Refusal.behind("fell()", -11, "taken(38, 6)");
        Due.is("no TREES", new LeavesBeforeWind().taken(36, 6), -11);
    }

    /** "-13": a CELL of another KIND, a CELL taken for a TREE, a TREE for a CELL. */
    private static void promise44AnotherKind() {
        Refusal.is(-13, "taken(0, 1)", "taken(0, 5)", "taken(35, 6)", "taken(9, 1)", "taken(9, 5)", "taken(7, 2)", "taken(22, 3)", "taken(28, 4)");
        for (int kind = 0; kind < 6; kind++) Refusal.is(-13, "taken(36, " + kind + ")", "taken(38, " + kind + ")");
    }

    /** "(also of one that is one): its number": the first and the last CELL, each KIND for each. */
    private static void promise44AlsoOfOneThatIsOne() {
        int[][] isOne = {{0}, {0, 1}, {0, 2}, {0, 1, 3}, {0, 4}, {0, 2, 5}};
        for (int c = 0; c < 36; c += 35) {
            for (int kind = 0; kind < 6; kind++) {
                LeavesBeforeWind x = new LeavesBeforeWind();
                x.lay(c, kind, 99);
                int fit = 0;
                for (int of : isOne[kind]) {
                    fit |= 1 << of;
                    Due.is("KIND " + kind + " taken for " + of, x.taken(c, of), c);
                }
                for (int of = 0; of < 7; of++) {
                    if ((fit >> of & 1) == 0) Due.is("KIND " + kind + " taken for " + of, x.taken(c, of), -13);
                }
            }
        }
    }

    /** "6 a TREE: how many HANG at first": the first and the last, none and 999. */
    private static void promise44FirstAndLastTree() {
        LeavesBeforeWind x = Due.under("falls 999;blows 0;rots 0;");
        for (int t = 0; t < 4; t++) x.tree(0, 0, t * 333);
        Due.is("all fall", x.hang(14, 3), 0);
        for (int t = 0; t < 4; t++) Due.is("TREE " + t, x.taken(36 + t, 6), t * 333);
    }
}
