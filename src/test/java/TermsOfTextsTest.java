/** The chapter "Terms", its paragraphs on texts, faults, the law: a test for each sentence that names an edge. */
public final class TermsOfTextsTest {
    private static final String REST = ";blows 1;rots 1;";

    public static void main(String[] args) throws ReflectiveOperationException {
        Due.everySentence(TermsOfTextsTest.class);
    }

    private static void fault(String text, int place) {
        LeavesBeforeWind x = new LeavesBeforeWind();
        Due.is("fault of '" + text + "'", Due.text(x, text), -100 - place);
        Due.is("no TEXT by '" + text + "'", x.count(2), 1);
    }

    private static void stands(String text) {
        LeavesBeforeWind x = new LeavesBeforeWind();
        Due.is("'" + text + "'", Due.text(x, text), 1);
        Due.is("a TEXT by '" + text + "'", x.count(2), 2);
    }

    /** What falls E says with left 50, strong 3, frost 1, wet 1, sort 5, many 60. */
    private static void says(String e, int due) {
        LeavesBeforeWind x = Due.under("falls " + e + REST);
        Due.is(e, x.asks(0, 50, 31, 15, 60), due);
    }

    /** "THE TAPE (160 bytes at most)": a TEXT of so many bytes is read to its last. */
    private static void termsTapeOf160Bytes() {
        String text = "falls 1;blows 1;rots ";
        String filled = text + "0+".repeat((158 - text.length()) / 2);
        String whole = (filled + "         ").substring(0, 158) + "9;";
        Due.is("its size", whole.length(), 160);
        LeavesBeforeWind x = new LeavesBeforeWind();
        Due.is("a TEXT", Due.text(x, whole), 1);
        x.force(1);
        Due.is("its last number", x.asks(2, 0, 0, 0, 0), 9);
        fault(whole.substring(0, 159) + "#", 159);
        fault(whole.substring(0, 159) + " ", 160);
    }

    /** "TOKENS, each as long as can be: WORDS (as many letters a .. z as stand there)". */
    private static void termsWordsAsLongAsCanBe() {
        fault("fallsleft" + REST, 0);
        fault("falls leftleft" + REST, 6);
        fault("falls left or1 notleft" + REST, 15);
        fault("falls 1 orleft" + REST, 8);
        stands("falls1or0and not2" + REST);
        stands("falls(left)or(wet)" + REST);
    }

    /** "NUMBERS (as many digits as stand there; more than 4 are too long)". */
    private static void termsNumbersOfFourDigits() {
        stands("falls 9999" + REST);
        says("0009", 9);
        says("0000", 0);
        fault("falls 10000" + REST, 6);
        fault("falls 00000" + REST, 6);
        fault("falls 1+12345678901234567890" + REST, 8);
        fault("falls 12 34" + REST, 9);
    }

    /** "blanks (32, 10) may stand between": also none, also many; no other byte is a blank. */
    private static void termsBlanks() {
        stands("falls1;blows1;rots1;");
        stands(" \n falls \n\n 1 \n ; blows\n1;rots 1\n; \n");
        for (int b : new int[] {0, 9, 11, 12, 13, 31, 33, 160}) fault("falls" + (char) b + "1" + REST, 5);
    }

    /** "also of a byte that begins none": any of 256 behind a ONE; what may stand there leaves the text too early an end. */
    private static void termsByteThatBeginsNone() {
        for (int b = 0; b < 256; b++) {
            boolean may = "+-*<=; \n".indexOf(b) >= 0;
            fault("falls 1 " + (char) b, may ? 9 : 8);
        }
    }

    /** "also of a byte that begins none": any of 256 where a ONE is to stand. */
    private static void termsByteThatBeginsNoOne() {
        for (int b = 0; b < 256; b++) {
            boolean may = "-( \n".indexOf(b) >= 0 || b >= '0' && b <= '9';
            fault("falls " + (char) b, may ? 7 : 6);
        }
    }

    /** "of a WORD that is neither KEY nor NAME". */
    private static void termsWordNeitherKeyNorName() {
        for (String name : new String[] {"left", "strong", "frost", "wet", "sort", "many"}) {
            stands("falls " + name + REST);
            fault("falls " + name + "s" + REST, 6);
            fault("falls x" + name + REST, 6);
            fault("falls " + name.substring(1) + REST, 6);
            fault("falls " + name.substring(0, name.length() - 1) + REST, 6);
            fault("falls " + name.toUpperCase() + REST, 6);
        }
        fault("fall 1" + REST, 0);
        fault("fallsx 1" + REST, 0);
        fault("falls 1;blow 1;rots 1;", 8);
        fault("falls 1;blows 1;rotss 1;", 16);
        fault("falls no 1" + REST, 6);
        fault("falls nota 1" + REST, 6);
        fault("falls 1 an 1" + REST, 8);
        fault("falls 1 o 1" + REST, 8);
        fault("falls z" + REST, 6);
        fault("falls leftz" + REST, 6);
        fault("falls zleft" + REST, 6);
        fault("falls aleft" + REST, 6);
        fault("falls lefta" + REST, 6);
    }

    /** "the first TOKEN that can't stand there": a KEY or a NAME at a wrong place. */
    private static void termsTokenThatCantStand() {
        for (String key : new String[] {"falls", "blows", "rots", "or", "and"}) fault("falls " + key + REST, 6);
        for (String key : new String[] {"falls", "blows", "rots", "not", "left", "1", "("}) fault("falls 1 " + key + REST, 8);
        for (String e : new String[] {"+", "*", "<", "=", ")", ";", "or", "and"}) fault("falls " + e, 6);
        for (String e : new String[] {"+", "*", "<", "=", ")", ";", "or", "and"}) fault("falls (" + e, 7);
        for (String e : new String[] {"+", "*", "<", "=", ")", ";", "or", "and"}) fault("falls -" + e, 7);
        for (String e : new String[] {"+", "*", "<", "=", ")", ";", "or", "and"}) fault("falls not " + e, 10);
        for (String sign : new String[] {"+", "-", "*", "<", "="}) fault("falls 1" + sign + "not 1" + REST, 8);
        fault("falls 1)" + REST, 7);
        fault("falls (1))" + REST, 9);
        fault("falls (1;", 8);
        fault("blows 1;", 0);
        fault("1;", 0);
        fault(";", 0);
        fault("falls 1;rots 1;", 8);
        fault("falls 1;falls 1;", 8);
        fault("falls 1;blows 1;blows 1;", 16);
    }

    /** "A TEXT: falls E ; blows E ; rots E ;": behind it no TOKEN can stand. */
    private static void termsBehindTheText() {
        String text = "falls 1;blows 1;rots 1;";
        for (String more : new String[] {";", "1", "left", "falls", "x", "#", "12345", ")", "-"}) {
            fault(text + more, 23);
            fault(text + " \n" + more, 25);
        }
    }

    /** "perhaps < or = and a SUM": one comparison, and another only within ( ) or behind and, or. */
    private static void termsOneComparison() {
        for (String one : new String[] {"<", "="}) {
            for (String other : new String[] {"<", "="}) {
                fault("falls 1" + one + "2" + other + "3" + REST, 9);
                fault("falls not 1" + one + "2" + other + "3" + REST, 13);
                fault("falls (1" + one + "2" + other + "3)" + REST, 10);
                stands("falls (1" + one + "2)" + other + "(3" + one + "4)" + REST);
                stands("falls 1" + one + "2 and 1" + other + "2 or 1" + one + "2" + REST);
            }
        }
    }

    /** "FAULT: (the text's size, if it ends too early)": cut behind any TOKEN, with blanks behind it or not. */
    private static void termsTooEarlyAnEnd() {
        String[] tokens = "falls ( not 1 < 2 or 3 ) and - left = 4 + 5 ; blows 6 * 7 - wet ; rots 1 ;".split(" ");
        String text = "";
        for (String token : tokens) {
            fault(text, text.length());
            fault(text.trim(), text.trim().length());
            text = text + token + " ";
        }
        stands(text);
    }

    /** "FAULT: (the text's size, if it ends too early)": what an earlier, longer text left behind it is no part of it. */
    private static void termsTooEarlyBehindALongerText() {
        LeavesBeforeWind x = new LeavesBeforeWind();
        Due.is("longer", Due.text(x, "falls 12345678"), -106);
        Due.is("its first digits are a NUMBER", Due.text(x, "falls 1"), -107);
        Due.is("longer", Due.text(x, "falls leftleft"), -106);
        Due.is("its first letters are a NAME", Due.text(x, "falls left"), -110);
        Due.is("fewer are none", Due.text(x, "falls lef"), -106);
        Due.is("whole", Due.text(x, "falls 1" + REST), 1);
        Due.is("its start", Due.text(x, "falls 1;blows 1;rots 1"), -122);
        Due.is("none of it", x.text(), -100);
    }

    /** "THE TAPE (160 bytes at most)": its last byte is the last of a NUMBER, a NAME, a WORD that is none, a sign. */
    private static void termsTokenAtTheTapesEnd() {
        for (String end : new String[] {"1", "left", "many", "-", "(", "not"}) fault(full("falls", end), 160);
        for (String end : new String[] {"+", "-", "*", "<", "=", "or", "and"}) fault(full("falls 1", end), 160);
        fault(full("falls", "lef"), 157);
        fault(full("falls", "12345"), 155);
        fault(full("falls", ")"), 159);
    }

    /** 160 bytes: a start, blanks, an end. */
    private static String full(String start, String end) {
        return start + " ".repeat(160 - start.length() - end.length()) + end;
    }

    /** Of two faults the first counts, be it of a sign, a word, a number or of how many are open. */
    private static void termsFirstFault() {
        fault("falls 12345 + #", 6);
        fault("falls # + 12345", 6);
        fault("falls ------1 #", 11);
        fault("falls # ------1", 6);
        fault("falls 1 1 x", 8);
    }

    /** "a ( while 5 of these are open (a ( till its ) )". */
    private static void termsFiveOpenBrackets() {
        stands("falls (((((1)))))" + REST);
        stands("falls (((((1)))))+(((((1)))))" + REST);
        stands("falls ((((1)+(1))))" + REST);
        fault("falls ((((((1))))))" + REST, 11);
        fault("falls (((((1)+(1)))))+((((((1))))))" + REST, 27);
        fault("falls (((((1)+(1)+((1))))))" + REST, 19);
    }

    /** "a not ... while 5 of these are open (not till what it belongs to ends)". */
    private static void termsFiveOpenNots() {
        stands("falls not not not not not 1" + REST);
        stands("falls not not not not not 1 and not not not not not 1" + REST);
        stands("falls not not not not not 1 or(((((1)))))" + REST);
        fault("falls not not not not not not 1" + REST, 26);
        fault("falls not 1<(((((1)))))" + REST, 16);
        fault("falls not 1+1*(((((1)))))" + REST, 18);
        fault("falls (((((not 1)))))" + REST, 11);
        fault("falls -(-(not 1<-1))" + REST, 16);
    }

    /** "a - ahead of a ONE while 5 of these are open (- till what it belongs to ends)". */
    private static void termsFiveOpenMinuses() {
        stands("falls -----1" + REST);
        stands("falls -----1*-----1-----1" + REST);
        stands("falls -1*(((((1)))))" + REST);
        stands("falls 1------1" + REST);
        fault("falls ------1" + REST, 11);
        fault("falls 1-------1" + REST, 13);
        fault("falls -(((((1)))))" + REST, 11);
        fault("falls (((((-1)))))" + REST, 11);
        stands("falls (((((1-1)))))" + REST);
    }

    /** "of ... <, = 1 or 0": of numbers so far from each other that what is between them is no int. */
    private static void termsLessOfFarNumbers() {
        String great = "9999*9999*21", small = "-9999*9999";
        says(great + "<" + small, 0);
        says(small + "<" + great, 1);
        says(great + "=" + small, 0);
        says(great + "=" + great, 1);
    }

    /** "An E is an int (32 bits, wrapping)": from sums, from products, of a - ahead of a ONE. */
    private static void termsIntWraps() {
        // 2147483647
        String most = "9999*9999*21+9999*4790+8416";
        says(most + "<0", 0);
        says("(" + most + "+1)<0", 1);
        says("-(" + most + ")-1<0", 1);
        says("-(" + most + ")-2<0", 0);
        says("-(" + most + ")-2=" + most, 1);
        says("-(-(" + most + ")-1)=-(" + most + ")-1", 1);
        LeavesBeforeWind x = Due.under("falls 8192*8192*64+7;blows 1;rots 1;");
        Due.is("2 to the 32nd is 0", x.asks(0, 0, 0, 0, 0), 7);
        LeavesBeforeWind y = Due.under("falls 8192*8192*32;blows -(8192*8192*32);rots 8192*8192*32-1;");
        for (int part = 0; part < 3; part++) {
            Due.is("2 to the 31st is below 0, also turned; 1 less is above", y.asks(part, 0, 0, 0, 0), part == 2 ? 100 : 0);
        }
    }

    /** "of or, and, not, <, = 1 or 0 (what is not 0 is true)": also what is below 0. */
    private static void termsWhatIsNotZeroIsTrue() {
        String[] or = {"0 or 0", "0 or 7", "7 or 0", "-7 or 0", "0 or -7", "7 or -7"};
        String[] and = {"0 and 0", "0 and 7", "7 and 0", "-7 and 0", "1 and 2", "-7 and -8"};
        for (int k = 0; k < 6; k++) {
            says("(" + or[k] + ")*5", k == 0 ? 0 : 5);
            says("(" + and[k] + ")*5", k < 4 ? 0 : 5);
        }
        says("(not 0)*5", 5);
        says("(not 7)*5", 0);
        says("(not -7)*5", 0);
        says("(1<2)*5+(2<2)*7+(2<1)*9", 5);
        says("(1=2)*5+(2=2)*7+(-2<-1)*9", 16);
    }

    /** "falls 0 .. 999, blows, rots 0 .. 100, of a hundred, else the bound", by what is asked. */
    private static void termsBoundsAsked() {
        int[] told = {-9999, -1, 0, 1, 99, 100, 101, 998, 999, 1000, 9999};
        int[] falls = {0, 0, 0, 1, 99, 100, 101, 998, 999, 999, 999};
        for (int k = 0; k < told.length; k++) {
            LeavesBeforeWind x = Due.under("falls " + told[k] + ";blows " + told[k] + ";rots " + told[k] + ";");
            Due.is("falls " + told[k], x.asks(0, 0, 0, 0, 0), falls[k]);
            Due.is("blows " + told[k], x.asks(1, 0, 0, 0, 0), Math.min(100, falls[k]));
            Due.is("rots " + told[k], x.asks(2, 0, 0, 0, 0), Math.min(100, falls[k]));
        }
    }

    /** "falls 0 .. 999, blows, rots 0 .. 100, of a hundred, else the bound", by what a DAY does. */
    private static void termsBoundsOfADay() {
        LeavesBeforeWind below = Due.under("falls -5;blows -5;rots -5;");
        below.tree(14, 0, 50);
        below.strew(14, 60);
        Due.is("none fall", below.hang(1, 0), 50);
        Due.is("all lie where they lay", below.lie(1, 14, 0), 60);
        LeavesBeforeWind above = Due.under("falls 1000;blows strong*101;rots frost*101;");
        above.tree(14, 0, 999);
        above.sky(1, 1, 9);
        above.sky(2, 2, 1);
        Due.is("all fall", above.lie(1, 14, 0), 999);
        Due.is("all blow, no more", above.lie(2, 20, 0), 999);
        Due.is("none lie there", above.lie(2, 14, 0), 0);
        Due.is("all are ROTTEN, no more", above.sum(3, 2), 999);
        Due.is("none lie", above.sum(3, 0), 0);
    }

    /** "TEXTS are numbered from 0 on, 6 at most; TEXT 0, at first, and THE LAW". */
    private static void termsSixTexts() {
        LeavesBeforeWind x = new LeavesBeforeWind();
        Due.is("TEXTS at first", x.count(2), 1);
        Due.is("THE LAW at first", x.count(3), 0);
        for (int t = 1; t < 6; t++) Due.is("TEXT", Due.text(x, "falls " + t + REST), t);
        Due.is("a seventh", Due.text(x, "falls 6" + REST), -4);
        Due.is("TEXTS", x.count(2), 6);
    }

    /** "THE LAW: falls strong + frost * 40 + 2 - sort ; blows strong * 10 - wet * 60 ; rots wet ;", at its bounds. */
    private static void termsFirstLawAtItsBounds() {
        LeavesBeforeWind x = new LeavesBeforeWind();
        int[][] due = {{0, 0, 2}, {0, 2, 0}, {0, 9, 0}, {91, 0, 51}, {91, 9, 42}};
        for (int[] k : due) Due.is("falls", x.asks(0, 9999, k[0], k[1], 9999), k[2]);
        int[][] blows = {{0, 0, 0}, {90, 0, 90}, {0, 10, 0}, {60, 10, 0}, {70, 10, 10}, {91, 19, 30}};
        for (int[] k : blows) Due.is("blows", x.asks(1, 9999, k[0], k[1], 9999), k[2]);
        Due.is("rots dry", x.asks(2, 9999, 91, 9, 9999), 0);
        Due.is("rots wet", x.asks(2, 0, 0, 10, 0), 1);
    }

    /** "falls, of a TREE: many 0"; "blows, rots: left, sort 0", whatever TREES there are. */
    private static void termsNamesThatAreZero() {
        LeavesBeforeWind x = Due.under("falls 7*(many=0);blows 100*(left+sort=0 and left=sort);rots 50*(left=0 and sort=0);");
        x.tree(0, 9, 999);
        x.strew(14, 100);
        x.strew(0, 100);
        Due.is("7 fall", x.hang(1, 0), 992);
        Due.is("all blow, half rot", x.lie(1, 20, 0), 50);
        Due.is("also below the TREE", x.lie(1, 6, 0), 54);
        Due.is("half rot", x.sum(1, 2), 103);
    }
}
