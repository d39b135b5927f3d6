import java.util.ArrayList;
import java.util.List;

/** Where a text's fault is, found by going through its tokens once, with what is open on a stack, without recursion. */
final class Faults {
    private final String text;
    private final List<String> open = new ArrayList<>();
    private boolean wantsOne = true, mayNot = true, compared = false;

    private Faults(String text) {
        this.text = text;
    }

    /** -1: none. */
    static int place(String text) {
        return new Faults(text).find();
    }

    private int find() {
        String[] keys = {"falls", "blows", "rots"};
        int at = 0, part = 0;
        boolean inPart = false;
        while (true) {
            while (at < text.length() && " \n".indexOf(text.charAt(at)) >= 0) at++;
            String token = tokenAt(at);
            if (part == 3) return at == text.length() ? -1 : at;
            if (!inPart) {
                if (!token.equals(keys[part])) return at;
                inPart = true;
                wantsOne = mayNot = true;
                compared = false;
            } else if (token.equals(";") && !wantsOne && !open.contains("(") && !open.contains("((")) {
                open.clear();
                inPart = false;
                part++;
            } else if (!takes(token)) {
                return at;
            }
            at += token.length();
        }
    }

    private String tokenAt(int at) {
        if (at >= text.length()) return "";
        int end = at;
        while (end < text.length() && Character.isDigit(text.charAt(end))) end++;
        if (end > at) return text.substring(at, end);
        while (end < text.length() && text.charAt(end) >= 'a' && text.charAt(end) <= 'z') end++;
        return text.substring(at, Math.max(end, at + 1));
    }

    private boolean takes(String token) {
        return wantsOne ? takesOne(token) : takesBehind(token);
    }

    private boolean takesOne(String token) {
        boolean opens = token.equals("(") || token.equals("-") || token.equals("not") && mayNot;
        if (opens) {
            if (open.size() == 5) return false;
            // "((" remembers that ahead of it there was a comparison
            open.add(token.equals("(") && compared ? "((" : token);
            mayNot = !token.equals("-") && (token.equals("(") || mayNot);
            if (token.equals("(")) compared = false;
            return true;
        }
        boolean name = List.of(Expression.NAMES).contains(token);
        if (!name && !token.matches("[0-9]{1,4}")) return false;
        oneEnds();
        return true;
    }

    private void oneEnds() {
        wantsOne = mayNot = false;
        close("-");
    }

    private void close(String what) {
        while (!open.isEmpty() && open.get(open.size() - 1).equals(what)) open.remove(open.size() - 1);
    }

    private boolean takesBehind(String token) {
        switch (token) {
            case "+", "-", "*":
                break;
            case "<", "=":
                if (compared) return false;
                compared = true;
                break;
            case "and", "or":
                close("not");
                compared = false;
                mayNot = true;
                break;
            case ")":
                return closes();
            default:
                return false;
        }
        wantsOne = true;
        return true;
    }

    private boolean closes() {
        close("not");
        if (open.isEmpty()) return false;
        compared = open.remove(open.size() - 1).equals("((");
        oneEnds();
        return true;
    }
}
