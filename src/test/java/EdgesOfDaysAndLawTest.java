/** Promises 1 to 8: a test for each sentence that names an edge or a refusal. */
public final class EdgesOfDaysAndLawTest {
    private static final String REST = ";blows 1;rots 1;";

    public static void main(String[] args) throws ReflectiveOperationException {
        Due.everySentence(EdgesOfDaysAndLawTest.class);
    }

    /** "All GRASS". */
    private static void promise1AllGrass() {
        LeavesBeforeWind x = new LeavesBeforeWind();
        for (int c = 0; c < 36; c++) Due.is("KIND of " + c, x.cellTold(c, 0), 0);
    }

    /** "no TREES". */
    private static void promise1NoTrees() {
        LeavesBeforeWind x = new LeavesBeforeWind();
        Due.is("TREES", x.count(0), 0);
        Due.is("TREE 0", x.treeTold(0, 0), -5);
        Due.is("none HANG", x.sum(0, 1), 0);
        Due.is("the first TREE is TREE 0", x.tree(0, 0, 0), 0);
    }

    /** Two objects have nothing in common: what is told of one is not told of a new one. */
    private static void promise1NewBesideAnother() {
        LeavesBeforeWind old = Refusal.twin("");
        LeavesBeforeWind x = new LeavesBeforeWind();
        int[] counts = {0, 0, 1, 0, 0};
        for (int what = 0; what < 5; what++) Due.is("count " + what, x.count(what), counts[what]);
        Due.is("the law", x.asks(0, 0, 91, 0, 0), 51);
        Due.is("SHEET", x.cell(0, 0, 0), -11);
        Due.is("IMAGE", x.back(), -3);
        Due.is("the other one", old.count(0), 3);
    }

    /** "-5: no such DAY", ahead of what and v. */
    private static void promise2NoSuchDay() {
        Refusal.is(-5, "sky(-1, 0, 0)", "sky(14, 0, 0)", "sky(MIN, 1, 1)", "sky(MAX, 3, 1)", "sky(14, 4, 0)", "sky(-1, 0, 4)", "sky(14, -1, -1)");
    }

    /** "-7: what". */
    private static void promise2NoSuchWhat() {
        Refusal.is(-7, "sky(0, -1, 0)", "sky(13, 4, 0)", "sky(5, MIN, 0)", "sky(5, MAX, 0)");
    }

    /** "-7: v": below 0; above 3, 9, 1, 1. */
    private static void promise2NoSuchV() {
        Refusal.is(-7, "sky(0, 0, -1)", "sky(0, 0, 4)", "sky(0, 1, -1)", "sky(13, 1, 10)", "sky(0, 2, -1)", "sky(0, 2, 2)");
        Refusal.is(-7, "sky(13, 3, -1)", "sky(13, 3, 2)", "sky(0, 0, MIN)", "sky(0, 0, MAX)", "sky(0, 1, MIN)", "sky(0, 3, MAX)");
    }

    /** "becomes v: what was": the least and the most of each, on the first DAY and on the last. */
    private static void promise2LeastAndMost() {
        int[] most = {3, 9, 1, 1};
        for (int d = 0; d < 14; d += 13) {
            for (int what = 0; what < 4; what++) {
                LeavesBeforeWind x = new LeavesBeforeWind();
                Due.is("was at first", x.sky(d, what, most[what]), 0);
                Due.is("was the most", x.sky(d, what, 0), most[what]);
                Due.is("was the least", x.sky(d, what, 1), 0);
                Due.is("is", x.skyTold(d, what), 1);
            }
        }
    }

    /** "of a DAY": no other DAY's, nor another what. */
    private static void promise2OneDayAlone() {
        for (int d = 0; d < 14; d++) {
            for (int what = 0; what < 4; what++) {
                LeavesBeforeWind x = new LeavesBeforeWind();
                x.sky(d, what, 1);
                int together = 0;
                for (int k = 0; k < 56; k++) together += x.skyTold(k / 4, k % 4);
                Due.is("one alone", together, 1);
                Due.is("that one", x.skyTold(d, what), 1);
            }
        }
    }

    /** "-5: no such DAY", ahead of what. */
    private static void promise3NoSuchDay() {
        Refusal.is(-5, "skyTold(-1, 0)", "skyTold(14, 0)", "skyTold(MIN, 0)", "skyTold(MAX, 3)", "skyTold(14, 4)", "skyTold(-1, -1)");
    }

    /** "-7: what". */
    private static void promise3NoSuchWhat() {
        Refusal.is(-7, "skyTold(0, -1)", "skyTold(13, 4)", "skyTold(0, MIN)", "skyTold(0, MAX)");
    }

    /** "BAD." */
    private static void promise4Bad() {
        Refusal.is(-2, "count(-1)", "count(5)", "count(MIN)", "count(MAX)");
    }

    /** Each count at its least and at its most. */
    private static void promise4LeastAndMost() {
        LeavesBeforeWind x = new LeavesBeforeWind();
        int[] least = {0, 0, 1, 0, 0}, most = {4, 16383, 6, 5, 160};
        for (int what = 0; what < 5; what++) Due.is("least " + what, x.count(what), least[what]);
        for (int t = 0; t < 4; t++) x.tree(t, 0, 0);
        x.rake(16383);
        for (int t = 1; t < 6; t++) Due.text(x, "falls 1" + REST);
        x.force(5);
        Due.feed(x, " ".repeat(160));
        for (int what = 0; what < 5; what++) Due.is("most " + what, x.count(what), most[what]);
    }

    /** "BAD: n" (1 .. 5). */
    private static void promise5BadN() {
        Refusal.is(-2, "feed(0, 32, 32, 32, 32, 32)", "feed(6, 32, 32, 32, 32, 32)", "feed(-1, 0, 0, 0, 0, 0)", "feed(MIN, 0, 0, 0, 0, 0)",
                "feed(MAX, 0, 0, 0, 0, 0)");
    }

    /** "BAD: any of the five", also of those that would not come. */
    private static void promise5BadByte() {
        for (String bad : new String[] {"-1", "256", "MIN", "MAX"}) {
            for (int n = 1; n < 6; n += 2) {
                String call = "feed(" + n + ", ";
                Refusal.is(-2, call + bad + ", 32, 32, 32, 32)", call + "32, " + bad + ", 32, 32, 32)", call + "32, 32, " + bad + ", 32, 32)",
                        call + "32, 32, 32, " + bad + ", 32)", call + "32, 32, 32, 32, " + bad + ")");
            }
        }
    }

    /** "five bytes (0 .. 255 each)": these two come, and none of the text's TOKENS begins with them. */
    private static void promise5LeastAndMostByte() {
        for (int b = 0; b < 256; b += 255) {
            LeavesBeforeWind x = new LeavesBeforeWind();
            for (int n = 1; n < 6; n++) Due.is("feed " + n, x.feed(n, b, b, b, b, b), n * (n + 1) / 2);
            Due.is("no TOKEN", x.text(), -100);
        }
    }

    /** "The first n of five bytes come behind THE TAPE's, one by one": the others don't. */
    private static void promise5FirstOnly() {
        for (int n = 1; n < 6; n++) {
            LeavesBeforeWind x = new LeavesBeforeWind();
            Due.feed(x, "falls ");
            Due.is("how many it has", x.feed(n, '1', '+', '2', '+', '4'), 6 + n);
            Due.is("the fault of so many", x.text(), -106 - n);
            Due.feed(x, "falls ");
            x.feed(n, '1', '+', '2', '+', '4');
            int due = n % 2 == 1 ? 1 : -100 - 6 - n;
            Due.is("a text of so many", Due.text(x, REST), due);
            x.force(1);
            if (n % 2 == 1) Due.is("their sum", x.asks(0, 0, 0, 0, 0), new int[] {1, 3, 7}[n / 2]);
        }
    }

    private static String feeding(int bytes) {
        return "text(); " + "feed(5, 32, 32, 32, 32, 32); ".repeat(bytes / 5) + (bytes % 5 == 0 ? "" : "feed(" + bytes % 5 + ", 32, 32, 32, 32, 32)");
    }

    /** "FULL: not all of the n have room (none comes)". */
    private static void promise5Full() {
        for (int n = 1; n < 6; n++) {
            Refusal.behind(feeding(160), -4, "feed(" + n + ", 32, 32, 32, 32, 32)");
            Refusal.behind(feeding(161 - n), -4, "feed(" + n + ", 32, 32, 32, 32, 32)");
            LeavesBeforeWind x = Refusal.twin(feeding(160 - n));
            Due.is("just room for " + n, x.feed(n, 32, 32, 32, 32, 32), 160);
        }
    }

    /** "REFUSALS, of several the first one told": BAD ahead of FULL. */
    private static void promise5BadAheadOfFull() {
        Refusal.behind(feeding(160), -2, "feed(6, 32, 32, 32, 32, 32)", "feed(0, 32, 32, 32, 32, 32)", "feed(1, 256, 32, 32, 32, 32)",
                "feed(1, 32, 32, 32, 32, -1)");
    }

    /** "THE TAPE, which is empty then, is a TEXT: its number". */
    private static void promise6EmptyThen() {
        LeavesBeforeWind x = new LeavesBeforeWind();
        Due.is("a TEXT", Due.text(x, "falls 1" + REST), 1);
        Due.is("empty", x.count(4), 0);
        Due.is("its end is the size of nothing", x.text(), -100);
        Due.is("room for 160 again", feedAll(x, 160), 160);
    }

    private static int feedAll(LeavesBeforeWind x, int bytes) {
        Due.feed(x, " ".repeat(bytes));
        return x.count(4);
    }

    /** "(by a FAULT, too)". */
    private static void promise6EmptyByAFaultToo() {
        LeavesBeforeWind x = new LeavesBeforeWind();
        Due.is("a FAULT", Due.text(x, "falls 1;blows 1;rots x;"), -121);
        Due.is("empty", x.count(4), 0);
        Due.is("no TEXT", x.count(2), 1);
        Due.is("what stood there is gone", Due.text(x, "falls 2" + REST), 1);
    }

    /** "-100 less the place of its FAULT": the first place, the last, the size. */
    private static void promise6FirstAndLastPlace() {
        LeavesBeforeWind x = new LeavesBeforeWind();
        Due.is("of an empty TAPE", x.text(), -100);
        Due.is("of the first byte", Due.text(x, "#falls 1"), -100);
        Due.is("of the last byte of 160", Due.text(x, "falls 1" + " ".repeat(152) + "#"), -259);
        Due.is("of the size of 160", Due.text(x, "falls 1" + " ".repeat(153)), -260);
        Due.is("of 160 blanks", Due.text(x, " \n".repeat(80)), -260);
    }

    private static LeavesBeforeWind fullBook(int fives) {
        LeavesBeforeWind x = new LeavesBeforeWind();
        for (int t = 1; t < 6; t++) Due.is("TEXT " + t, Due.text(x, "falls " + t + REST), t);
        Due.feed(x, "falls".repeat(fives));
        return x;
    }

    /** "FULL (ahead of the FAULT": with a TEXT, a FAULT, or nothing on THE TAPE. */
    private static void promise6FullAheadOfTheFault() {
        Due.is("a FAULT", fullBook(2).text(), -4);
        Due.is("nothing", fullBook(0).text(), -4);
        Due.is("a TEXT", Due.text(fullBook(0), "falls 1" + REST), -4);
    }

    /** "; then THE TAPE stays)": and may be fed on. */
    private static void promise6FullTheTapeStays() {
        LeavesBeforeWind x = fullBook(2);
        Due.is("FULL", x.text(), -4);
        Due.is("it stays", x.count(4), 10);
        Due.is("FULL again", x.text(), -4);
        Due.is("fed on", x.feed(1, 32, 0, 0, 0, 0), 11);
        Due.is("TEXTS", x.count(2), 6);
        for (int t = 1; t < 6; t++) {
            x.force(t);
            Due.is("each as it was", x.asks(0, 0, 0, 0, 0), t);
        }
    }

    /** "BAD.": no such TEXT, also the one that a FAULT did not make. */
    private static void promise7Bad() {
        Refusal.is(-2, "force(-1)", "force(2)", "force(5)", "force(6)", "force(MIN)", "force(MAX)");
        Refusal.behind("feed(1, 35, 0, 0, 0, 0); text()", -2, "force(2)");
        LeavesBeforeWind x = new LeavesBeforeWind();
        Due.is("one TEXT alone", x.force(1), -2);
    }

    /** "A TEXT is THE LAW: which was": the first and the last of six; itself again. */
    private static void promise7FirstAndLastText() {
        LeavesBeforeWind x = fullBook(0);
        Due.is("the last", x.force(5), 0);
        Due.is("itself", x.force(5), 5);
        Due.is("its falls", x.asks(0, 0, 0, 0, 0), 5);
        Due.is("the seventh", x.force(6), -2);
        Due.is("the first", x.force(0), 5);
        Due.is("its falls", x.asks(0, 0, 0, 0, 0), 2);
    }

    /** "What part": BAD. */
    private static void promise8BadPart() {
        Refusal.is(-2, "asks(-1, 0, 0, 0, 0)", "asks(3, 0, 0, 0, 0)", "asks(MIN, 0, 0, 0, 0)", "asks(MAX, 0, 0, 0, 0)");
    }

    /** "hanging: left, 0 .. 9999": BAD. */
    private static void promise8BadHanging() {
        Refusal.is(-2, "asks(0, -1, 0, 0, 0)", "asks(1, 10000, 0, 0, 0)", "asks(2, MIN, 0, 0, 0)", "asks(2, MAX, 0, 0, 0)");
    }

    /** "strongFrost: 10 times strong, and frost": strong 0 .. 9, frost 0, 1; BAD. */
    private static void promise8BadStrongFrost() {
        LeavesBeforeWind x = new LeavesBeforeWind();
        for (int k = -15; k < 120; k++) {
            boolean is = k >= 0 && k < 100 && k % 10 < 2;
            Due.is("strongFrost " + k, x.asks(0, 0, k, 0, 0), is ? k / 10 + k % 10 * 40 + 2 : -2);
        }
        Refusal.is(-2, "asks(0, 0, -1, 0, 0)", "asks(0, 0, -10, 0, 0)", "asks(0, 0, 92, 0, 0)", "asks(0, 0, 100, 0, 0)", "asks(0, 0, MIN, 0, 0)",
                "asks(0, 0, MAX, 0, 0)");
    }

    /** "wetSort: 10 times wet, and sort": wet 0, 1, sort 0 .. 9; BAD. */
    private static void promise8BadWetSort() {
        LeavesBeforeWind x = Due.under("falls wet*100+sort;blows 0;rots 0;");
        for (int k = -15; k < 40; k++) {
            boolean is = k >= 0 && k < 20;
            Due.is("wetSort " + k, x.asks(0, 0, 0, k, 0), is ? k / 10 * 100 + k % 10 : -2);
        }
        Refusal.is(-2, "asks(0, 0, 0, -1, 0)", "asks(0, 0, 0, 20, 0)", "asks(0, 0, 0, MIN, 0)", "asks(0, 0, 0, MAX, 0)");
    }

    /** "many 0 .. 9999": BAD. */
    private static void promise8BadMany() {
        Refusal.is(-2, "asks(0, 0, 0, 0, -1)", "asks(1, 0, 0, 0, 10000)", "asks(2, 0, 0, 0, MIN)", "asks(2, 0, 0, 0, MAX)");
    }

    /** The least and the most of each number, all at once. */
    private static void promise8LeastAndMost() {
        LeavesBeforeWind x = Due.under("falls (left=9999)+(strong=9)*2+frost*4+wet*8+(sort=9)*16+(many=9999)*32;blows 0;rots 0;");
        Due.is("most", x.asks(0, 9999, 91, 19, 9999), 63);
        Due.is("least", x.asks(0, 0, 0, 0, 0), 0);
        LeavesBeforeWind parts = Due.under("falls 1;blows 2;rots 3;");
        for (int part = 0; part < 3; part++) Due.is("part " + part, parts.asks(part, 0, 0, 0, 0), part + 1);
    }

    /** "What part says": of THE LAW, at its bounds; with names that no DAY would give it. */
    private static void promise8SaysAtTheBound() {
        LeavesBeforeWind x = Due.under("falls many;blows left+sort;rots left;");
        Due.is("999 at most", x.asks(0, 0, 0, 0, 1000), 999);
        Due.is("999", x.asks(0, 0, 0, 0, 999), 999);
        Due.is("100 at most", x.asks(1, 92, 0, 9, 0), 100);
        Due.is("100", x.asks(2, 100, 0, 0, 0), 100);
    }
}
