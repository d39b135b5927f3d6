/** The chapter "Terms", its first block: edges of cells, kinds, days, trees, what is so at first. A test for each sentence. */
public final class TermsOfLawnTest {
    private static final String STILL = "falls 0;blows 0;rots 0;";

    public static void main(String[] args) throws ReflectiveOperationException {
        Due.everySentence(TermsOfLawnTest.class);
    }

    /** "CELLS 0 .. 35: 6 y and x": from each, by each WAY, one CELL on or OFF; a row's end is not the next row's start. */
    private static void termsCellsAndWays() {
        int[] toY = {1, 0, -1, 0}, toX = {0, 1, 0, -1};
        for (int c = 0; c < 36; c++) {
            for (int way = 0; way < 4; way++) {
                int y = c / 6 + toY[way], x = c % 6 + toX[way];
                boolean beyond = y < 0 || y > 5 || x < 0 || x > 5;
                LeavesBeforeWind lawn = Due.allBlow();
                lawn.strew(c, 10);
                lawn.sky(0, 0, way);
                Due.is("from " + c + " OFF by " + way, lawn.sum(1, 5 + way), beyond ? 10 : 0);
                Due.is("from " + c + " lie on", lawn.sum(1, 0), beyond ? 0 : 10);
                if (!beyond) Due.is("from " + c + " by " + way, lawn.lie(1, 6 * y + x, 0), 10);
                for (int w = 0; w < 4; w++) {
                    if (w != way) Due.is("from " + c + " OFF by another WAY", lawn.sum(1, 5 + w), 0);
                }
            }
        }
    }

    /** What blows beyond the lawn goes past no CELL's COME: a wall on the other side does not hold it. */
    private static void termsBeyondTheLawnNoneIsHeld() {
        for (int way = 0; way < 4; way++) {
            LeavesBeforeWind x = Due.allBlow();
            int c = new int[] {33, 17, 3, 12}[way];
            x.plot(0, 66, 2, 0);
            x.strew(c, 10);
            x.sky(0, 0, way);
            Due.is("OFF by " + way, x.sum(1, 5 + way), 10);
        }
    }

    /** "of a KIND with MORE (GRASS, 0 at first), LEAVES that lie there at first, dry (0 at first)". */
    private static void termsCellsAtFirst() {
        LeavesBeforeWind x = new LeavesBeforeWind();
        for (int c = 0; c < 36; c++) {
            for (int what = 0; what < 3; what++) Due.is("cellTold(" + c + ", " + what + ")", x.cellTold(c, what), 0);
        }
        x.strew(0, 7);
        Due.is("dry", x.lie(0, 0, 0), 7);
        Due.is("none wet", x.lie(0, 0, 1), 0);
    }

    /** "the WAY of the wind (0 at first), how STRONG (0 at first), FROST, RAIN (0 at first)". */
    private static void termsDaysAtFirst() {
        LeavesBeforeWind x = new LeavesBeforeWind();
        for (int d = 0; d < 14; d++) {
            for (int what = 0; what < 4; what++) Due.is("skyTold(" + d + ", " + what + ")", x.skyTold(d, what), 0);
        }
    }

    /** "RAKING: DAYS (bits; none at first)". */
    private static void termsRakingAtFirst() {
        LeavesBeforeWind x = Due.under(STILL);
        x.strew(0, 9);
        Due.is("RAKING", x.count(1), 0);
        Due.is("RAKED", x.sum(14, 3), 0);
    }

    /** "HEAPS: CELLS (bits, one at least; CELL 0 at first)". */
    private static void termsHeapsAtFirst() {
        LeavesBeforeWind x = new LeavesBeforeWind();
        x.strew(35, 1);
        Due.is("10 far", x.raking(0), 10 + 30);
        Due.is("HEAPS", x.heap(2), 1);
    }

    /** "TREES are numbered from 0 on, 4 at most". */
    private static void termsFourTrees() {
        LeavesBeforeWind x = new LeavesBeforeWind();
        for (int t = 0; t < 4; t++) Due.is("TREE " + t, x.tree(0, 0, 1), t);
        Due.is("a fifth", x.tree(0, 0, 1), -4);
        Due.is("TREES", x.count(0), 4);
        Due.is("HANG", x.sum(0, 1), 4);
        x.fell();
        Due.is("the latest's number is free again", x.tree(0, 0, 1), 3);
    }

    /** All that blow in cell 7 go to cell 8 on day 0, dry (behind rain: wet); the two are of some KINDS. */
    private static LeavesBeforeWind blowing(int many, int kind, int more, int kindNext, int moreNext, int rain) {
        LeavesBeforeWind x = Due.allBlow();
        x.strew(7, many);
        x.lay(7, kind, more);
        x.lay(8, kindNext, moreNext);
        x.sky(0, 0, 1);
        x.sky(0, 3, rain);
        return x;
    }

    private static void goOff(int many, int kind, int more, int due) {
        for (int wet = 0; wet < 2; wet++) {
            LeavesBeforeWind x = blowing(many, kind, more, 0, 0, wet);
            String call = many + " on KIND " + kind + " with MORE " + more;
            Due.is(call + " GO OFF", x.lie(1, 8, wet), due);
            Due.is(call + " stay", x.lie(1, 7, wet), many - due);
        }
    }

    private static void come(int many, int kind, int more, int due) {
        for (int wet = 0; wet < 2; wet++) {
            LeavesBeforeWind x = blowing(many, 0, 0, kind, more, wet);
            String call = many + " to KIND " + kind + " with MORE " + more;
            Due.is(call + " COME", x.lie(1, 8, wet), due);
            Due.is(call + ": the others stay where they were", x.lie(1, 7, wet), many - due);
        }
    }

    /** "0 GRASS: all; all; yes." MORE does not matter. */
    private static void termsGrassAll() {
        for (int many : new int[] {1, 2, 999}) {
            goOff(many, 0, 0, many);
            goOff(many, 0, 99, many);
            come(many, 0, 0, many);
            come(many, 0, 99, many);
        }
    }

    /** "1 BED (a GRASS): half (cut) GO OFF; no.": all COME. */
    private static void termsBedHalfCut() {
        goOff(1, 1, 99, 0);
        goOff(2, 1, 0, 1);
        goOff(3, 1, 0, 1);
        goOff(999, 1, 0, 499);
        come(999, 1, 0, 999);
    }

    /** "2 WALL (a GRASS): none COME; no.": all GO OFF. */
    private static void termsWallNoneCome() {
        come(1, 2, 99, 0);
        come(999, 2, 99, 0);
        goOff(1, 2, 0, 1);
        goOff(999, 2, 0, 999);
    }

    /** "3 CORNER (a BED): of what GOES OFF a BED MORE at most.": half (cut) where that is less; all COME. */
    private static void termsCornerMoreAtMost() {
        goOff(1, 3, 99, 0);
        goOff(11, 3, 0, 0);
        goOff(11, 3, 4, 4);
        goOff(11, 3, 5, 5);
        goOff(11, 3, 6, 5);
        goOff(999, 3, 99, 99);
        come(999, 3, 0, 999);
    }

    /** "4 PATH (a GRASS): MORE less GO OFF (0 at least); no.": all COME. */
    private static void termsPathMoreLess() {
        goOff(11, 4, 0, 11);
        goOff(11, 4, 10, 1);
        goOff(11, 4, 11, 0);
        goOff(11, 4, 12, 0);
        goOff(1, 4, 99, 0);
        goOff(999, 4, 99, 900);
        come(999, 4, 0, 999);
    }

    /** "5 HEDGE (a WALL): MORE at most COME (of each).": all GO OFF. */
    private static void termsHedgeMoreAtMost() {
        come(11, 5, 0, 0);
        come(11, 5, 10, 10);
        come(11, 5, 11, 11);
        come(11, 5, 12, 11);
        come(999, 5, 99, 99);
        goOff(999, 5, 0, 999);
    }

    /** "(of each)", and "dry ones, wet ones, each by themselves": 6 dry and 6 wet ones, on cell 7 or ahead of cell 8. */
    private static void termsOfEachByThemselves() {
        int[][] cases = {{7, 1, 0, 3}, {7, 3, 2, 2}, {7, 4, 5, 1}, {8, 5, 4, 4}, {8, 5, 6, 6}};
        for (int[] k : cases) {
            LeavesBeforeWind x = Due.under("falls 0;blows strong*100;rots 0;");
            x.strew(7, 12);
            x.lay(k[0], k[1], k[2]);
            x.sky(0, 3, 1);
            x.sky(1, 0, 1);
            x.sky(1, 1, 1);
            for (int wet = 0; wet < 2; wet++) {
                Due.is("half of 12 dried", x.lie(1, 7, wet), wet == 0 ? 0 : 12);
                Due.is("of each on", x.lie(2, 8, wet), k[3]);
                Due.is("of each stay", x.lie(2, 7, wet), 6 - k[3]);
            }
        }
    }

    /** None COME to a wall, and none to a hedge with MORE 0, but what lies on them at first blows on. */
    private static void termsWallsLeavesBlowOn() {
        for (int kind = 2; kind < 6; kind += 3) {
            LeavesBeforeWind x = Due.allBlow();
            x.plot(6, 16, kind, 0);
            x.lay(8, 0, 0);
            x.strew(7, 5);
            x.strew(8, 7);
            Due.wind(x, 1, 0);
            Due.is("go from the wall to the grass", x.lie(1, 8, 0), 5 + 7);
            Due.is("none from the grass to the wall", x.lie(1, 9, 0), 0);
        }
    }

    private static int coveredDays(int kind, int leaves) {
        LeavesBeforeWind x = Due.under(STILL);
        x.lay(7, kind, 99);
        x.strew(7, leaves);
        return x.lie(14, 7, 2);
    }

    /** "whether it SUFFERS": GRASS does; BED, WALL, PATH don't; CORNER is as BED, HEDGE as WALL. */
    private static void termsWhichSuffer() {
        for (int kind = 0; kind < 6; kind++) Due.is("KIND " + kind, coveredDays(kind, 999), kind == 0 ? 14 : 0);
    }

    /** "each CELL that SUFFERS with 20 and more, dry and wet, is COVERED for one DAY more". */
    private static void termsTwentyCover() {
        int[] leaves = {0, 1, 19, 20, 21, 999}, due = {0, 0, 0, 14, 14, 14};
        for (int k = 0; k < 6; k++) Due.is(leaves[k] + " leaves", coveredDays(0, leaves[k]), due[k]);
        LeavesBeforeWind both = Due.under(STILL);
        both.strew(7, 20);
        both.sky(0, 3, 1);
        Due.is("10 dry and 10 wet", both.lie(2, 7, 0) * 100 + both.lie(2, 7, 1), 1010);
        Due.is("cover", both.lie(2, 7, 2), 2);
        both.strew(7, 19);
        Due.is("19, dry and wet, don't", both.lie(2, 7, 2), 0);
    }

    /** "In what follows n is how many DAYS, from the first on (0 .. 14)": behind none all is as at first. */
    private static void termsNoDaysAndAllDays() {
        LeavesBeforeWind x = Due.under("falls 1;blows 0;rots 0;");
        x.tree(0, 0, 99);
        x.sky(0, 3, 1);
        x.rake(1);
        Due.is("none fall", x.sum(0, 0), 0);
        Due.is("all HANG", x.hang(0, 0), 99);
        Due.is("none RAKED", x.sum(0, 3), 0);
        Due.is("the first one's is RAKED", x.sum(1, 3), 1);
        Due.is("14 fall", x.hang(14, 0), 85);
        x.rake(1 << 13);
        Due.is("the last one's RAKING is not behind 13", x.sum(13, 0), 13);
        Due.is("the last one's RAKING is behind 14", x.sum(14, 3), 14);
    }

    /** "An object is used for at most 512 calls": the last of them still answers. */
    private static void termsFiveHundredAndTwelveCalls() {
        LeavesBeforeWind x = new LeavesBeforeWind();
        x.tree(0, 0, 100);
        x.strew(7, 20);
        for (int call = 3; call < 512; call++) {
            Due.is("call " + call, x.hurdle(14, 99, 0), 0);
        }
        Due.is("the last", x.where(14, 0), 0);
    }
}
