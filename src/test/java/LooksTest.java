/** Promises 32 to 35: what a sheet tells of how many lie, and which texts and winds fit it. */
public final class LooksTest {
    public static void main(String[] args) {
        film();
        judge();
        judgeBySorts();
        laws();
        winds();
        Due.end();
    }

    private static void film() {
        LeavesBeforeWind x = Due.under("falls 3;blows 0;rots 0;");
        x.tree(35, 0, 99);
        x.strew(0, 999);
        x.strew(17, 40);
        x.sky(0, 3, 1);
        Due.is("film a missing one", x.film(3, 2), 36);
        Due.is("film another", x.film(0, 0), 36);
        Due.is("as behind 2", x.judge(3, 2), -1);
        Due.is("not as behind 1", x.judge(3, 1), 35);
        Due.is("as behind 0", x.judge(0, 0), -1);
        x.sheet(1, 0, 5);
        Due.is("film a shorter one of bytes", x.film(1, 2), 36);
        Due.is("that is of ints now", x.copy(3, 0, 1, 0, 36), 36);
        Due.is("truly becomes", x.judge(1, 2), -1);
        Due.is("dry and wet, of ints", x.cell(1, 0, 999), 1);
        Due.is("still", x.judge(1, 2), -1);
        Due.is("36 ints", x.cell(1, 36, 0), -12);
    }

    private static void judge() {
        LeavesBeforeWind x = new LeavesBeforeWind();
        x.strew(9, 7);
        Due.look(x, 0, 2, 9, 7);
        Due.is("as it is", x.judge(0, 0), -1);
        x.cell(0, 35, 1);
        Due.is("one more in the last", x.judge(0, 0), 35);
        x.strew(12, 1);
        Due.is("one less in another", x.judge(0, 0), 12);
        x.cell(0, 0, -1);
        Due.is("below 0 in the first", x.judge(0, 0), 0);
    }

    private static void judgeBySorts() {
        LeavesBeforeWind x = new LeavesBeforeWind();
        x.strew(9, 127);
        Due.look(x, 0, 0, 9, 127);
        Due.is("a byte", x.judge(0, 0), -1);
        x.cell(0, 9, 256 + 127);
        Due.is("its lowest 8 bits", x.judge(0, 0), -1);
        Due.look(x, 1, 1, 9, 65536 + 127);
        Due.is("a short's lowest 16 bits", x.judge(1, 0), -1);
        Due.look(x, 2, 2, 9, 65536 + 127);
        Due.is("an int's all", x.judge(2, 0), 9);
        x.strew(9, 200);
        x.cell(0, 9, 200);
        Due.is("200 is -56 as a byte", x.judge(0, 0), 9);
        x.cell(1, 9, 200);
        Due.is("200 as a short", x.judge(1, 0), -1);
    }

    private static void laws() {
        LeavesBeforeWind x = new LeavesBeforeWind();
        Due.text(x, "falls 5;blows 0;rots 0;");
        Due.text(x, "falls 6;blows 0;rots 0;");
        Due.text(x, "falls strong*5;blows 0;rots 0;");
        x.tree(7, 0, 99);
        x.sky(0, 1, 1);
        Due.look(x, 0, 2, 7, 5);
        Due.is("two fit", x.laws(0, 1), 2 | 8);
        x.cell(0, 7, 6);
        Due.is("one fits", x.laws(0, 1), 4);
        x.cell(0, 7, 7);
        Due.is("none fits", x.laws(0, 1), 0);
        x.cell(0, 7, 0);
        Due.is("all fit behind none", x.laws(0, 0), 15);
        Due.is("the law stays", x.count(3), 0);
    }

    private static void winds() {
        LeavesBeforeWind x = Due.allBlow();
        x.strew(14, 10);
        Due.wind(x, 1, 0);
        for (int w = 0; w < 4; w++) {
            Due.look(x, 0, 0, new int[] {21, 16, 9, 14}[w], 10);
            Due.is("way " + w, x.winds(0, 2), 1 << w);
        }
        x.plot(0, 66, 2, 0);
        Due.is("walls all about", x.winds(0, 1), 15);
        Due.is("none fits", x.winds(1, 1), -11);
        x.sheet(1, 1, 36);
        Due.is("none fits", x.winds(1, 14), 0);
        Due.is("the way stays", x.skyTold(1, 0), 1);
        LeavesBeforeWind edge = Due.allBlow();
        edge.strew(0, 10);
        edge.sheet(0, 0, 36);
        Due.is("off by two", edge.winds(0, 1), 4 | 8);
        edge.sky(13, 0, 3);
        Due.is("of the last only", edge.winds(0, 14), 15);
    }
}
