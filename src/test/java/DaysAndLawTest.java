/** Promises 1 to 8: a new object, the days, the tape, texts and the law. */
public final class DaysAndLawTest {
    public static void main(String[] args) {
        newObject();
        sky();
        counts();
        tape();
        texts();
        faults();
        faultsOfDepth();
        fullBook();
        force();
        firstLaw();
        operations();
        Due.end();
    }

    private static void newObject() {
        LeavesBeforeWind x = new LeavesBeforeWind();
        for (int c = 0; c < 36; c++) {
            for (int what = 0; what < 3; what++) Due.is("new cellTold " + c, x.cellTold(c, what), 0);
        }
        for (int d = 0; d < 14; d++) {
            for (int what = 0; what < 4; what++) Due.is("new skyTold " + d, x.skyTold(d, what), 0);
        }
        int[] counts = {0, 0, 1, 0, 0};
        for (int what = 0; what < 5; what++) Due.is("new count " + what, x.count(what), counts[what]);
        Due.is("new treeTold", x.treeTold(0, 0), -5);
        Due.is("new heaps", x.heap(2), 1);
        for (int s = 0; s < 4; s++) Due.is("new sheet " + s, x.cell(s, 0, 0), -11);
        Due.is("new image", x.back(), -3);
        Due.is("NONE", LeavesBeforeWind.NONE, -1);
        Due.is("BAD", LeavesBeforeWind.BAD, -2);
        Due.is("STATE", LeavesBeforeWind.STATE, -3);
        Due.is("FULL", LeavesBeforeWind.FULL, -4);
        Due.is("NO", LeavesBeforeWind.NO, -4611686018427387904L);
    }

    private static void sky() {
        LeavesBeforeWind x = new LeavesBeforeWind();
        int[] most = {3, 9, 1, 1};
        for (int d = 0; d < 14; d++) {
            for (int what = 0; what < 4; what++) {
                Due.is("sky most", x.sky(d, what, most[what]), 0);
                Due.is("skyTold most", x.skyTold(d, what), most[what]);
                Due.is("sky above most", x.sky(d, what, most[what] + 1), -7);
                Due.is("sky below 0", x.sky(d, what, -1), -7);
                Due.is("sky was", x.sky(d, what, 0), most[what]);
                Due.is("sky was 0", x.sky(d, what, 1), 0);
            }
        }
        for (int d = 0; d < 14; d++) {
            for (int what = 0; what < 4; what++) Due.is("skyTold 1", x.skyTold(d, what), 1);
        }
    }

    private static void counts() {
        LeavesBeforeWind x = new LeavesBeforeWind();
        x.tree(0, 0, 0);
        x.tree(1, 0, 0);
        x.rake(5);
        Due.text(x, "falls 1;blows 1;rots 1;");
        Due.text(x, "falls 1;blows 1;rots 1;");
        x.force(1);
        x.feed(4, 1, 2, 3, 4, 5);
        int[] counts = {2, 5, 3, 1, 4};
        for (int what = 0; what < 5; what++) Due.is("count " + what, x.count(what), counts[what]);
        Due.is("count(5)", x.count(5), -2);
        Due.is("count(-1)", x.count(-1), -2);
    }

    private static void tape() {
        LeavesBeforeWind x = new LeavesBeforeWind();
        Due.is("feed n 0", x.feed(0, 0, 0, 0, 0, 0), -2);
        Due.is("feed n 6", x.feed(6, 0, 0, 0, 0, 0), -2);
        for (int k = 0; k < 5; k++) {
            int[] b = new int[5];
            b[k] = 256;
            Due.is("feed 256", x.feed(1, b[0], b[1], b[2], b[3], b[4]), -2);
            b[k] = -1;
            Due.is("feed -1", x.feed(1, b[0], b[1], b[2], b[3], b[4]), -2);
        }
        Due.is("nothing came", x.count(4), 0);
        Due.is("feed 255", x.feed(5, 255, 255, 255, 255, 255), 5);
        for (int k = 1; k < 31; k++) Due.is("feed 5", x.feed(5, 32, 32, 32, 32, 32), 5 + 5 * k);
        Due.is("feed 2", x.feed(2, 32, 32, 32, 32, 32), 157);
        Due.is("feed 4 of 3", x.feed(4, 32, 32, 32, 32, 32), -4);
        Due.is("none came", x.count(4), 157);
        Due.is("BAD ahead of FULL", x.feed(4, 32, 32, 32, 32, 300), -2);
        Due.is("feed 3", x.feed(3, 32, 32, 32, 32, 32), 160);
        Due.is("feed 1 of 0", x.feed(1, 32, 32, 32, 32, 32), -4);
        Due.is("fault of 255", x.text(), -100);
        Due.is("empty then", x.count(4), 0);
    }

    private static void texts() {
        LeavesBeforeWind x = new LeavesBeforeWind();
        Due.is("closest", Due.text(x, "falls1;blows2;rots3;"), 1);
        Due.is("empty then", x.count(4), 0);
        Due.is("blanks", Due.text(x, " \nfalls\n 1 ;blows 2;rots 3\n;\n "), 2);
        Due.is("all that may stand",
                Due.text(x, "falls not left<strong+frost or wet=sort*many and-(1)<2;blows 9999;rots((2));"), 3);
        x.feed(5, 'f', 'a', 'l', 'l', 's');
        Due.is("too early", x.text(), -105);
        Due.is("empty by a fault", x.count(4), 0);
        Due.is("texts", x.count(2), 4);
        Due.is("law", x.count(3), 0);
        Due.is("a fault", Due.text(x, "falls 7;blows 8;rots 9"), -122);
        Due.is("behind it", Due.text(x, "falls 4;blows 5;rots 6;"), 4);
        x.force(4);
        for (int part = 0; part < 3; part++) Due.is("nothing is left of the fault's", x.asks(part, 0, 0, 0, 0), 4 + part);
    }

    private static void fault(String text, int place) {
        Due.is("fault of " + text, Due.text(new LeavesBeforeWind(), text), -100 - place);
    }

    private static void faults() {
        fault("", 0);
        fault("  ", 2);
        fault("blows 1;", 0);
        fault("falls 1", 7);
        fault("falls 1 ", 8);
        fault("falls 1;blows 1;rots 1", 22);
        fault("falls 1;blows 1;rots 1;;", 23);
        fault("falls 1;blows 1;rots 1; 5", 24);
        fault("falls ;", 6);
        fault("falls falls;", 6);
        fault("falls 1 1;", 8);
        fault("falls 1 left;", 8);
        fault("falls 1;blows 1;rots 1;#", 23);
        fault("falls 1;blows 1;rots 1; 12345", 24);
        fault("falls frostz;", 6);
        fault("falls afrost;", 6);
        fault("falls 12345;", 6);
        fault("falls 00001;", 6);
        fault("falls 1 12345;", 8);
        fault("falls lefts;", 6);
        fault("falls lef;", 6);
        fault("falls notleft;", 6);
        fault("fallsleft;", 0);
        fault("Falls 1;", 0);
        fault("falls 1\t;", 7);
        fault("falls 1 > 2;", 8);
        fault("falls 1 {", 8);
        fault("falls 1 `", 8);
        fault("falls 1 /", 8);
        fault("falls 1 :", 8);
        fault("falls 2x;", 7);
        fault("falls 1 < 2 < 3;", 12);
        fault("falls 1 < 2 = 3;", 12);
        fault("falls 1 = 2 < 3;", 12);
        fault("falls 1 < not 2;", 10);
        fault("falls 1 + not 2;", 10);
        fault("falls - not 2;", 8);
        fault("falls 1 * * 2;", 10);
        fault("falls 1 + + 2;", 10);
        fault("falls 1 or or 2;", 11);
        fault("falls 1 and ;", 12);
        fault("falls and 1;", 6);
        fault("falls ();", 7);
        fault("falls (1;", 8);
        fault("falls 1);", 7);
        fault("falls (1 < 2;", 12);
        fault("falls 1;rots 1;", 8);
        fault("falls 1;blows 1;falls 1;", 16);
    }

    private static void faultsOfDepth() {
        String rest = ";blows 1;rots 1;";
        LeavesBeforeWind x = new LeavesBeforeWind();
        Due.is("five (", Due.text(x, "falls (((((1)))))" + rest), 1);
        Due.is("five not", Due.text(x, "falls not not not not not 1" + rest), 2);
        Due.is("five -", Due.text(x, "falls -----1" + rest), 3);
        Due.is("they end", Due.text(x, "falls -1+(((((1)))))*-((((1))))" + rest), 4);
        Due.is("not ends", Due.text(x, "falls not 1 and(((((1))))) or not not(1)" + rest), 5);
        fault("falls ((((((1))))))" + rest, 11);
        fault("falls not not not not not not 1" + rest, 26);
        fault("falls ------1" + rest, 11);
        fault("falls 1-------1" + rest, 13);
        fault("falls not 1<(((((1)))))" + rest, 16);
        fault("falls not 1+(((((1)))))" + rest, 16);
        fault("falls -(((((1)))))" + rest, 11);
        fault("falls (not(-(1+-(1))))" + rest, 15);
        fault("falls (((((not 1)))))" + rest, 11);
        fault("falls (((((-1)))))" + rest, 11);
        Due.is("- behind a one is no opening", Due.text(new LeavesBeforeWind(), "falls (((((1-1)))))" + rest), 1);
    }

    private static void fullBook() {
        LeavesBeforeWind x = new LeavesBeforeWind();
        for (int t = 1; t < 6; t++) Due.is("text " + t, Due.text(x, "falls " + t + ";blows 0;rots 0;"), t);
        Due.feed(x, "no text");
        Due.is("full ahead of the fault", x.text(), -4);
        Due.is("the tape stays", x.count(4), 7);
        Due.is("texts", x.count(2), 6);
        for (int t = 5; t > 0; t--) {
            x.force(t);
            Due.is("each its own", x.asks(0, 0, 0, 0, 0), t);
        }
    }

    private static void force() {
        LeavesBeforeWind x = new LeavesBeforeWind();
        Due.is("force(1)", x.force(1), -2);
        Due.is("force(-1)", x.force(-1), -2);
        Due.is("force(0)", x.force(0), 0);
        Due.text(x, "falls 7;blows 8;rots 9;");
        Due.is("a text is no law yet", x.asks(1, 0, 20, 0, 0), 20);
        Due.is("force(1)", x.force(1), 0);
        Due.is("force(2)", x.force(2), -2);
        Due.is("falls", x.asks(0, 0, 0, 0, 0), 7);
        Due.is("blows", x.asks(1, 0, 0, 0, 0), 8);
        Due.is("rots", x.asks(2, 0, 0, 0, 0), 9);
        Due.is("force back", x.force(0), 1);
    }

    private static void firstLaw() {
        LeavesBeforeWind x = new LeavesBeforeWind();
        Due.is("falls 9+40+2-3", x.asks(0, 9, 91, 13, 9), 48);
        Due.is("falls below 0", x.asks(0, 9, 0, 9, 9), 0);
        Due.is("blows 50", x.asks(1, 0, 50, 0, 0), 50);
        Due.is("blows 90-60", x.asks(1, 0, 91, 19, 0), 30);
        Due.is("blows below 0", x.asks(1, 0, 50, 10, 0), 0);
        Due.is("rots dry", x.asks(2, 0, 91, 9, 9999), 0);
        Due.is("rots wet", x.asks(2, 0, 91, 19, 9999), 1);
    }

    private static int value(String e) {
        LeavesBeforeWind x = Due.under("falls " + e + ";blows 0;rots 0;");
        return x.asks(0, 123, 71, 14, 456);
    }

    private static void operations() {
        Due.is("names", value("left"), 123);
        Due.is("names", value("strong*100+frost*10+wet"), 711);
        Due.is("names", value("sort"), 4);
        Due.is("names", value("many"), 456);
        Due.is("* ahead of +", value("2+3*4"), 14);
        Due.is("from the left", value("20-3-4"), 13);
        Due.is("()", value("20-(3-4)"), 21);
        Due.is("-", value("-3+10"), 7);
        Due.is("- and *", value("-2*-3"), 6);
        Due.is("<", value("(1<2)*10+(2<2)+(3<2)"), 10);
        Due.is("=", value("(1=2)+(2=2)*10"), 10);
        Due.is("+ ahead of <", value("1+1<1+2"), 1);
        Due.is("+ ahead of <", value("5-3=2"), 1);
        Due.is("not behind <", value("not 2<1"), 1);
        Due.is("not of true", value("not 7"), 0);
        Due.is("not of not", value("not not 7"), 1);
        Due.is("and", value("(2 and 3)*10+(0 and 3)+(3 and 0)"), 10);
        Due.is("or", value("(2 or 0)*100+(0 or 3)*10+(0 or 0)"), 110);
        Due.is("and ahead of or", value("1 or 0 and 0"), 1);
        Due.is("and ahead of or", value("0 and 0 or 1"), 1);
        Due.is("a lone E keeps its value", value("(5)"), 5);
        Due.is("below 0 is true", value("-3 and 1"), 1);
        Due.is("2199560022 wraps below 0", value("9999*9999*22<0"), 1);
        Due.is("4299140043 wraps to 4172747", value("9999*9999*43-417*9999-3000"), 164);
        Due.is("1000 is bound", value("1000"), 999);
        LeavesBeforeWind x = Due.under("falls 999;blows 101;rots 200;");
        Due.is("falls most", x.asks(0, 0, 0, 0, 0), 999);
        Due.is("blows most", x.asks(1, 0, 0, 0, 0), 100);
        Due.is("rots most", x.asks(2, 0, 0, 0, 0), 100);
        LeavesBeforeWind y = Due.under("falls left;blows left+many;rots sort;");
        Due.is("left in blows", y.asks(1, 7, 0, 0, 9), 16);
        Due.is("sort in rots", y.asks(2, 7, 0, 8, 9), 8);
        Due.is("rots below 0", Due.under("falls 0;blows 0;rots -1;").asks(2, 0, 0, 0, 0), 0);
    }
}
