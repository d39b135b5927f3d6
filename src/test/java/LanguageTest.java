import java.io.IOException;
import java.lang.reflect.Field;
import java.lang.reflect.Member;
import java.lang.reflect.Method;
import java.lang.reflect.Modifier;
import java.nio.file.Files;
import java.nio.file.Path;
import java.util.ArrayList;
import java.util.List;
import java.util.Set;
import java.util.TreeSet;
import java.util.regex.Matcher;
import java.util.regex.Pattern;

/** The rules of LANGUAGE.md as far as they can be seen from outside: the face, sizes, words that are ruled out. */
public final class LanguageTest {
    private static final Path SOURCE = Path.of("src/main/java/LeavesBeforeWind.java");
    private static final String FACE = "away asks back cell cellTold copy corner count drawn feed fell film force great hang "
            + "heap hurdle image judge laws lay least lie odds plot rake raking share sheet sky skyTold strew sum taken text "
            + "thrice tonight tree treeTold treesBy where winds worst";
    private static final String[] RULED_OUT = {
        "\\b(throw|throws|try|catch|finally|synchronized|assert|while \\(true\\)|instanceof|package|var|default ->)\\b",
        "->", "::", "\\bstatic \\{", "\" \\+|\\+ \"", "\\.(format|valueOf|toString|hashCode|split|trim|values)\\(", "\\bException\\b",
        "Exact\\(", "\\bSystem\\.(?!arraycopy)", "\\bThread\\b", "\\bRandom\\b", "MAX_VALUE|MIN_VALUE"};

    public static void main(String[] args) throws IOException {
        face();
        members();
        words(withoutComments(Files.readString(SOURCE)));
        lengths(Files.readAllLines(SOURCE));
        Due.end();
    }

    private static List<Class<?>> classes() {
        List<Class<?>> classes = new ArrayList<>(List.of(LeavesBeforeWind.class.getDeclaredClasses()));
        classes.add(LeavesBeforeWind.class);
        return classes;
    }

    private static void face() {
        Set<String> open = new TreeSet<>(), closed = new TreeSet<>();
        for (Method m : LeavesBeforeWind.class.getDeclaredMethods()) {
            if (m.isSynthetic()) continue;
            (Modifier.isPublic(m.getModifiers()) ? open : closed).add(m.getName());
            boolean hidden = Modifier.isPublic(m.getModifiers()) || Modifier.isPrivate(m.getModifiers());
            Due.is("face or private: " + m, hidden ? 1 : 0, 1);
        }
        Due.is("the face: " + open, String.join(" ", open).equals(String.join(" ", new TreeSet<>(List.of(FACE.split(" "))))) ? 1 : 0, 1);
        closed.retainAll(open);
        Due.is("private ones with a public one's name: " + closed, closed.size(), 0);
        Due.is("constants", LeavesBeforeWind.class.getFields().length, 5);
        Due.is("constructors", LeavesBeforeWind.class.getConstructors().length, 1);
    }

    private static boolean mayBeStatic(Field f) {
        return Modifier.isFinal(f.getModifiers()) && (f.getType().isPrimitive() || f.getType() == String.class);
    }

    private static void members() {
        Due.is("some twelve classes at most", classes().size() <= 12 ? 1 : 0, 1);
        for (Class<?> c : classes()) {
            int fields = 0;
            for (Field f : c.getDeclaredFields()) {
                if (!Modifier.isStatic(f.getModifiers())) fields++;
                else Due.is("static " + f, mayBeStatic(f) ? 1 : 0, 1);
            }
            Due.is("some twenty fields at most in " + c, fields <= 20 ? 1 : 0, 1);
            for (Method m : c.getDeclaredMethods()) Due.is("seven parameters at most: " + m, m.getParameterCount() <= 7 ? 1 : 0, 1);
            boolean nested = c == LeavesBeforeWind.class || Modifier.isStatic(((Member) c.getDeclaredConstructors()[0]).getDeclaringClass().getModifiers());
            Due.is("static " + c, nested ? 1 : 0, 1);
        }
    }

    private static String withoutComments(String source) {
        return source.replaceAll("(?s)/\\*.*?\\*/", "").replaceAll("//[^\n]*", "");
    }

    private static void words(String source) {
        for (String ruledOut : RULED_OUT) {
            Matcher m = Pattern.compile(ruledOut).matcher(source);
            if (m.find()) Due.is("ruled out: " + m.group(), 1, 0);
        }
        for (int i = 0; i < source.length(); i++) Due.is("sign " + i, source.charAt(i) < 128 ? 1 : 0, 1);
    }

    /** A method starts and ends at the same depth of blanks. */
    private static void lengths(List<String> lines) {
        for (int i = 0; i < lines.size(); i++) {
            Matcher m = Pattern.compile("( {4}| {8})[a-z].*\\) \\{").matcher(lines.get(i));
            if (!m.matches()) continue;
            int end = i;
            while (end < lines.size() && !lines.get(end).equals(m.group(1) + "}")) end++;
            Due.is("some sixty lines at most: " + lines.get(i).trim(), end - i <= 60 ? 1 : 0, 1);
        }
    }
}
