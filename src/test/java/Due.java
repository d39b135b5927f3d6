import java.lang.reflect.Method;
import java.util.Arrays;
import java.util.Comparator;

/** What the tests have in common: answers that are due, and texts fed to the tape. */
final class Due {
    private static int wrong = 0;
    private static String test = "";

    static void is(String call, long got, long want) {
        if (got == want) return;
        wrong++;
        System.out.println(test + call + " answered " + got + ", due is " + want);
    }

    static void end() {
        System.out.println(wrong == 0 ? "all answers are as due" : wrong + " answers are not as due");
        if (wrong != 0) System.exit(1);
    }

    /** Runs every method of a class that is named by the promise (or the chapter "Terms") whose sentence it tests. */
    static void everySentence(Class<?> tests) throws ReflectiveOperationException {
        Method[] methods = tests.getDeclaredMethods();
        Arrays.sort(methods, Comparator.comparing(Method::getName));
        for (Method m : methods) {
            if (!m.getName().matches("(promise[0-9]+|terms)[A-Z].*")) continue;
            test = m.getName() + ": ";
            m.setAccessible(true);
            m.invoke(null);
        }
        test = "";
        end();
    }

    /** Feeds a text's bytes, five at once as far as they go. */
    static void feed(LeavesBeforeWind x, String text) {
        for (int i = 0; i < text.length(); i += 5) {
            int n = Math.min(5, text.length() - i);
            int[] b = new int[5];
            for (int k = 0; k < n; k++) b[k] = text.charAt(i + k);
            x.feed(n, b[0], b[1], b[2], b[3], b[4]);
        }
    }

    static int text(LeavesBeforeWind x, String text) {
        feed(x, text);
        return x.text();
    }

    /** A new object whose law is a text. */
    static LeavesBeforeWind under(String text) {
        LeavesBeforeWind x = new LeavesBeforeWind();
        is("text " + text, text(x, text), 1);
        is("force(1)", x.force(1), 0);
        return x;
    }

    /** A new object under whose law all that lie blow, none rot, and three fall of each tree. */
    static LeavesBeforeWind allBlow() {
        return under("falls 3;blows 100;rots 0;");
    }

    /** Tells the same way and strength for all days. */
    static void wind(LeavesBeforeWind x, int way, int strong) {
        for (int d = 0; d < 14; d++) {
            x.sky(d, 0, way);
            x.sky(d, 1, strong);
        }
    }

    /** The sheet becomes 36 of a sort, with n in one cell. */
    static void look(LeavesBeforeWind x, int s, int sort, int c, int n) {
        x.sheet(s, sort, 36);
        x.cell(s, c, n);
    }
}
