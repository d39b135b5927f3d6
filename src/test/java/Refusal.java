import java.lang.reflect.InvocationTargetException;
import java.lang.reflect.Method;
import java.util.ArrayList;
import java.util.List;

/**
 * Calls written as text, "sky(14, 0, MAX)", each made on an object of its own, of which much has been told: that they
 * are refused as is due, and that they change nothing, as seen beside a twin on which they were not made.
 */
final class Refusal {
    static final long NO = LeavesBeforeWind.NO;
    private static final String LAW = "falls strong+9-sort;blows strong*9+left;rots wet*7+1;";
    private static final String ON_TAPE = "falls 4;blows 5;rots 6;";

    private Refusal() { }

    /** Each of the calls is refused so, and changes nothing. */
    static void is(long due, String... calls) {
        behind("", due, calls);
    }

    /** Likewise behind other calls, with "; " between. */
    static void behind(String told, long due, String... calls) {
        List<Long> twin = seen(twin(told));
        for (String call : calls) {
            LeavesBeforeWind x = twin(told);
            Due.is(call, call(x, call), due);
            compare(call, seen(x), twin);
        }
    }

    /** Each of the calls is no refusal, and changes nothing all the same. */
    static void asksOnly(String... calls) {
        List<Long> twin = seen(twin(""));
        for (String call : calls) {
            LeavesBeforeWind x = twin("");
            long answer = call(x, call);
            Due.is(call + ": refused?", answer < 0 && answer != -1 ? answer : 0, 0);
            compare(call, seen(x), twin);
        }
    }

    private static void compare(String call, List<Long> seen, List<Long> twin) {
        for (int i = 0; i < twin.size(); i++) {
            Due.is(call + " has changed something, told by answer " + i + " of Refusal.seen(), which", seen.get(i), twin.get(i));
        }
    }

    static void calls(LeavesBeforeWind x, String calls) {
        for (String call : calls.split("; ")) {
            if (!call.isEmpty()) call(x, call);
        }
    }

    static long call(LeavesBeforeWind x, String call) {
        String name = call.substring(0, call.indexOf('('));
        String inside = call.substring(name.length() + 1, call.length() - 1);
        String[] told = inside.isEmpty() ? new String[0] : inside.split(", ");
        for (Method m : LeavesBeforeWind.class.getMethods()) {
            if (m.getName().equals(name)) return invoke(x, m, told);
        }
        throw new IllegalArgumentException(call);
    }

    private static long invoke(LeavesBeforeWind x, Method m, String[] told) {
        Object[] values = new Object[told.length];
        for (int i = 0; i < told.length; i++) {
            boolean isLong = m.getParameterTypes()[i] == long.class;
            values[i] = isLong ? (Object) longOf(told[i]) : (Object) intOf(told[i]);
        }
        try {
            return ((Number) m.invoke(x, values)).longValue();
        } catch (IllegalAccessException | InvocationTargetException e) {
            throw new IllegalStateException(m.getName() + String.join(" ", told), e);
        }
    }

    private static Long longOf(String told) {
        return told.equals("MAX") ? Long.valueOf(Long.MAX_VALUE) : told.equals("MIN") ? Long.valueOf(Long.MIN_VALUE) : Long.valueOf(told);
    }

    private static Integer intOf(String told) {
        return told.equals("MAX") ? Integer.valueOf(Integer.MAX_VALUE) : told.equals("MIN") ? Integer.valueOf(Integer.MIN_VALUE) : Integer.valueOf(told);
    }

    /** Two trees, an image of them, a third tree; two texts; ints, bytes, shorts on sheets 0 to 2; 23 bytes on the tape. */
    static LeavesBeforeWind twin(String told) {
        LeavesBeforeWind x = new LeavesBeforeWind();
        Due.text(x, LAW);
        for (int d = 0; d < 14; d++) {
            x.sky(d, 0, d * 5 % 4);
            x.sky(d, 1, d * 3 % 10);
        }
        calls(x, "sky(2, 2, 1); sky(5, 3, 1); sky(9, 3, 1); sky(12, 2, 1); force(1); rake(72); heap(2097665)");
        calls(x, "lay(7, 1, 0); lay(9, 2, 1); lay(16, 3, 5); lay(22, 4, 6); lay(28, 5, 7); strew(1, 50); strew(30, 70)");
        calls(x, "tree(14, 2, 300); tree(21, 5, 40); image(); tree(3, 9, 900); force(0); rake(8200); heap(34359738369)");
        calls(x, "sky(3, 1, 8); sky(4, 2, 1); lay(7, 4, 9); lay(8, 1, 2); strew(1, 55); strew(0, 21); strew(35, 33)");
        calls(x, "sheet(0, 2, 36); cell(0, 0, 21); cell(0, 1, 55); cell(0, 30, 70); cell(0, 35, 33)");
        calls(x, "sheet(1, 0, 3); cell(1, 0, 11); cell(1, 1, 3); cell(1, 2, 101)");
        calls(x, "sheet(2, 1, 40); cell(2, 0, 5); cell(2, 2, 500); cell(2, 37, 6); cell(2, 38, 7); cell(2, 39, 888)");
        Due.feed(x, ON_TAPE);
        calls(x, told);
        return x;
    }

    /** All that can be seen of an object by fewer than 400 calls; it is used up by that. */
    private static List<Long> seen(LeavesBeforeWind x) {
        List<Long> seen = new ArrayList<>();
        seenOfLawn(x, seen);
        for (int s = 0; s < 4; s++) seenOfSheet(x, s, seen);
        seenOfTexts(x, seen);
        seen.add((long) x.back());
        seenOfSums(x, seen);
        seen.add((long) x.count(3));
        for (int t = 0; t < 5; t++) seen.add((long) x.fell());
        seen.add((long) x.treesBy(1, 0, 0, 1));
        seen.add((long) x.treesBy(2, 1, 0, 1));
        seen.add((long) x.treesBy(2, 1, 37, 1));
        for (int t = 0; t < 3; t++) seenOfTree(x, t, seen);
        return seen;
    }

    private static void seenOfLawn(LeavesBeforeWind x, List<Long> seen) {
        for (int what = 0; what < 5; what++) seen.add((long) x.count(what));
        for (int d = 0; d < 14; d++) {
            for (int what = 0; what < 4; what++) seen.add((long) x.skyTold(d, what));
        }
        for (int c = 0; c < 36; c++) {
            for (int what = 0; what < 3; what++) seen.add((long) x.cellTold(c, what));
        }
        for (int t = 0; t < 4; t++) seenOfTree(x, t, seen);
        seenOfSums(x, seen);
    }

    private static void seenOfTree(LeavesBeforeWind x, int t, List<Long> seen) {
        for (int what = 0; what < 3; what++) seen.add((long) x.treeTold(t, what));
    }

    private static void seenOfSums(LeavesBeforeWind x, List<Long> seen) {
        for (int what = 0; what < 9; what++) seen.add((long) x.sum(14, what));
        long were = x.heap(1);
        seen.add(were);
        x.heap(were);
    }

    private static void seenOfSheet(LeavesBeforeWind x, int s, List<Long> seen) {
        for (int sort = 0; sort < 3; sort++) seen.add((long) x.treesBy(s, sort, 0, 0));
        for (int i : new int[] {0, 3, 4, 36, 37, 40}) seen.add((long) x.copy(s, i, s, i, 0));
        seen.add((long) x.judge(s, 0));
    }

    private static void seenOfTexts(LeavesBeforeWind x, List<Long> seen) {
        seen.add((long) x.text());
        for (int t = 0; t < 6; t++) {
            seen.add((long) x.force(t));
            for (int part = 0; part < 3; part++) seen.add((long) x.asks(part, 50, 31, 5, 60));
        }
        seen.add((long) x.count(4));
    }
}
