/** Promises 32 to 35: a test for each sentence that names an edge or a refusal. */
public final class EdgesOfLooksTest {
    private static final String[] LOOKS = {"judge", "laws", "winds"};

    public static void main(String[] args) throws ReflectiveOperationException {
        Due.everySentence(EdgesOfLooksTest.class);
    }

    private static void noSuchSheet(String look) {
        for (String s : new String[] {"-1", "4", "MIN", "MAX"}) Refusal.is(-2, look + "(" + s + ", 1)", look + "(" + s + ", 15)");
    }

    /** Ahead of -7, as sheet 3 is missing in Refusal's twin. */
    private static void nothingThere(String look) {
        Refusal.is(-11, look + "(3, 14)", look + "(3, 15)", look + "(3, -1)");
        Refusal.behind("sheet(0, -1, 36)", -11, look + "(0, 1)");
    }

    /** Ahead of -7; sizes 3 and 40 are those of sheets 1 and 2 in Refusal's twin. */
    private static void notThirtySix(String look) {
        Refusal.is(-2, look + "(1, 1)", look + "(2, 1)", look + "(1, 15)", look + "(2, -1)");
        for (int size : new int[] {0, 1, 35, 37}) {
            for (int sort = 0; sort < 3; sort++) Refusal.behind("sheet(3, " + sort + ", " + size + ")", -2, look + "(3, 1)", look + "(3, 15)");
        }
    }

    private static void noSuchN(String look) {
        Refusal.is(-7, look + "(0, -1)", look + "(0, 15)", look + "(0, MIN)", look + "(0, MAX)");
        for (int sort = 0; sort < 3; sort++) Refusal.behind("sheet(3, " + sort + ", 36)", -7, look + "(3, 15)");
    }

    /** "BAD: SHEET", ahead of the others. */
    private static void promise32NoSuchSheet() {
        noSuchSheet(LOOKS[0]);
    }

    /** "-11", ahead of its size and n. */
    private static void promise32NothingThere() {
        nothingThere(LOOKS[0]);
    }

    /** "BAD: its size isn't 36", ahead of n. */
    private static void promise32SizeIsNotThirtySix() {
        notThirtySix(LOOKS[0]);
    }

    /** "-7: n." */
    private static void promise32NoSuchN() {
        noSuchN(LOOKS[0]);
    }

    /** "the first CELL in which it is otherwise; -1: none": each alone, by one more and by one less; of two the first. */
    private static void promise32FirstOtherwise() {
        LeavesBeforeWind x = new LeavesBeforeWind();
        for (int c = 0; c < 36; c++) x.strew(c, 5);
        x.film(0, 0);
        Due.is("none", x.judge(0, 0), -1);
        for (int c = 0; c < 36; c++) {
            x.cell(0, c, 6);
            Due.is("one more in " + c, x.judge(0, 0), c);
            x.cell(0, c, 4);
            Due.is("one less in " + c, x.judge(0, 0), c);
            x.cell(0, 35, 0);
            Due.is("of two the first", x.judge(0, 0), c);
            x.cell(0, c, 5);
            x.cell(0, 35, 5);
        }
        Due.is("none", x.judge(0, 0), -1);
    }

    /** "(dry and wet) lie behind n DAYS": none, and all, of them. */
    private static void promise32NoneAndAllDays() {
        LeavesBeforeWind x = Due.under("falls 5;blows 0;rots 0;");
        x.tree(35, 0, 999);
        x.sky(13, 3, 1);
        x.sheet(0, 1, 36);
        Due.is("behind none", x.judge(0, 0), -1);
        Due.is("behind one", x.judge(0, 1), 35);
        x.cell(0, 35, 70);
        Due.is("65 wet and 5 wet ones behind all", x.judge(0, 14), -1);
        Due.is("not behind 13", x.judge(0, 13), 35);
    }

    /** "BAD, -11, BAD, -7 likewise": BAD: SHEET. */
    private static void promise33NoSuchSheet() {
        noSuchSheet(LOOKS[1]);
    }

    /** "BAD, -11, BAD, -7 likewise": -11. */
    private static void promise33NothingThere() {
        nothingThere(LOOKS[1]);
    }

    /** "BAD, -11, BAD, -7 likewise": BAD: its size isn't 36. */
    private static void promise33SizeIsNotThirtySix() {
        notThirtySix(LOOKS[1]);
    }

    /** "BAD, -11, BAD, -7 likewise": -7: n. */
    private static void promise33NoSuchN() {
        noSuchN(LOOKS[1]);
    }

    /** "TEXTS (bits), were they THE LAW": none, the first, the last of six, all; one that a FAULT did not make is none. */
    private static void promise33NoneAndAll() {
        LeavesBeforeWind x = new LeavesBeforeWind();
        x.tree(7, 0, 999);
        x.sheet(0, 2, 36);
        Due.is("the first alone is there", x.laws(0, 0), 1);
        for (int t = 1; t < 6; t++) {
            Due.is("a FAULT", Due.text(x, "falls 99;blows 1;rots x"), -122);
            Due.is("all behind no DAY", x.laws(0, 0), (1 << t) - 1);
            Due.text(x, "falls " + 10 * t + ";blows 0;rots 0;");
        }
        Due.is("all six", x.laws(0, 0), 63);
        Due.is("none", x.laws(0, 1), 0);
        x.cell(0, 7, 50);
        Due.is("the last", x.laws(0, 1), 32);
        x.cell(0, 7, 2);
        Due.is("the first", x.laws(0, 1), 1);
        x.force(5);
        Due.is("whatever THE LAW is", x.laws(0, 1), 1);
        Due.is("which stays", x.count(3), 5);
    }

    /** "BAD, -11, BAD, -7 likewise": BAD: SHEET. */
    private static void promise34NoSuchSheet() {
        noSuchSheet(LOOKS[2]);
    }

    /** "BAD, -11, BAD, -7 likewise": -11. */
    private static void promise34NothingThere() {
        nothingThere(LOOKS[2]);
        Refusal.is(-11, "winds(3, 0)");
    }

    /** "BAD, -11, BAD, -7 likewise": BAD: its size isn't 36. */
    private static void promise34SizeIsNotThirtySix() {
        notThirtySix(LOOKS[2]);
        Refusal.is(-2, "winds(1, 0)");
    }

    /** "BAD, -11, BAD, -7 likewise": -7: n; "n DAYS (1 .. 14)", so none has no last one. */
    private static void promise34NoSuchN() {
        noSuchN(LOOKS[2]);
        Refusal.is(-7, "winds(0, 0)");
        LeavesBeforeWind x = new LeavesBeforeWind();
        x.sheet(0, 0, 36);
        Due.is("1", x.winds(0, 1), 15);
        Due.is("14", x.winds(0, 14), 15);
    }

    /** "were they that of the last of n DAYS": of the first DAY, of each, of the last; none, one, all of the WAYS fit. */
    private static void promise34LastDay() {
        for (int n = 1; n < 15; n++) {
            LeavesBeforeWind x = Due.under("falls 0;blows strong*100;rots 0;");
            x.strew(14, 10);
            x.sky(n - 1, 1, 1);
            x.sky(n - 1, 0, 3);
            int[] to = {20, 15, 8, 13};
            for (int way = 0; way < 4; way++) {
                Due.look(x, 0, 0, to[way], 10);
                Due.is("by WAY " + way, x.winds(0, n), 1 << way);
                if (n > 1) Due.is("not yet", x.winds(0, n - 1), 0);
            }
            Due.look(x, 0, 0, 14, 10);
            if (n > 1) Due.is("by all, ahead of it", x.winds(0, n - 1), 15);
            Due.is("by none", x.winds(0, n), 0);
            Due.is("the WAY stays", x.skyTold(n - 1, 0), 3);
        }
    }

    /** "BAD: SHEET", ahead of n. */
    private static void promise35NoSuchSheet() {
        noSuchSheet("film");
    }

    /** "-7: n": nor does the SHEET become anything. */
    private static void promise35NoSuchN() {
        for (int s = 0; s < 4; s++) {
            String call = "film(" + s + ", ";
            Refusal.is(-7, call + "-1)", call + "15)", call + "MIN)", call + "MAX)");
        }
    }

    /** "A SHEET truly becomes that (36 ints): 36": a missing one, an empty one, one of 40 bytes, shorts, ints; the first and the last. */
    private static void promise35WhateverItWas() {
        for (int s = 0; s < 4; s += 3) {
            for (int sort = -1; sort < 3; sort++) {
                for (int size = 0; size < 41; size += 40) {
                    LeavesBeforeWind x = new LeavesBeforeWind();
                    x.strew(0, 999);
                    x.strew(35, 998);
                    x.sheet(s, sort, size);
                    for (int i = 0; i < size; i++) x.cell(s, i, 7);
                    Due.is("film", x.film(s, 0), 36);
                    Due.is("ints", x.treesBy(s, 2, 0, 0), 0);
                    Due.is("the last of 36", x.copy(s, 35, s, 35, 1), 1);
                    Due.is("none behind it", x.copy(s, 36, s, 36, 1), -12);
                    Due.is("that", x.judge(s, 0), -1);
                }
            }
        }
    }

    /** "that": behind no DAYS and behind all; dry and wet; it does not change with what is told then. */
    private static void promise35NoneAndAllDays() {
        LeavesBeforeWind x = Due.under("falls 1;blows 0;rots 0;");
        x.tree(7, 0, 999);
        x.sky(12, 3, 1);
        x.film(0, 0);
        x.film(1, 14);
        Due.is("as behind none", x.judge(0, 0), -1);
        Due.is("as behind all", x.judge(1, 14), -1);
        x.strew(7, 1);
        Due.is("otherwise now", x.judge(0, 0), 7);
        x.cell(0, 7, 1);
        Due.is("one was to be more", x.judge(0, 0), -1);
    }
}
