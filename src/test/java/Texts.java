import java.util.ArrayList;
import java.util.List;

/** Makes up texts, most of them right programs, the same ones for the same seed. */
final class Texts {
    private static final String SIGNS = "\\x:i.(){}[]<>@!$?&=+-TFb 019xyf";

    private record Name(char letter, String type) {
    }

    private long state;

    Texts(long seed) {
        state = seed * 2862933555777941757L + 3037000493L;
    }

    int below(int bound) {
        state = state * 6364136223846793005L + 1442695040888963407L;
        return (int) ((state >>> 33) % bound);
    }

    /** A text of at most 100 characters. */
    String next() {
        for (int tries = 0; tries < 100; tries++) {
            String text;
            switch (below(6)) {
                case 0:
                    text = loop();
                    break;
                case 1:
                    text = greedyLoop();
                    break;
                default:
                    text = expression(type(3), new ArrayList<>(), 3 + below(5));
            }
            if (below(8) == 0) {
                text = damaged(text);
            }
            if (text.length() <= 100) {
                return text;
            }
        }
        return "1";
    }

    /** A function that calls itself, which runs until it is out of fuel or room, or blames. */
    private String loop() {
        List<Name> names = new ArrayList<>();
        String start = "(\\x:?.(x x) \\x:?.";
        String end = ")";
        if (below(2) == 0) {
            String type = type(2);
            names.add(new Name('c', type));
            start = "(\\c:" + type + "." + start;
            end = ") " + expression(type, new ArrayList<>(), 2) + ")";
        }
        names.add(new Name('x', "?"));
        if (below(2) == 0) {
            return start + "[{" + expression("i", names, 4) + "<0}?x:(x x)]" + end;
        }
        if (below(2) == 0) {
            return start + "{" + expression("i", names, 4) + "+(x x)}" + end;
        }
        String type = type(2);
        return start + "(\\u:" + type + ".(x x) " + expression(type, names, 4) + ")" + end;
    }

    /** A loop in which every round makes many cells or casts. */
    private String greedyLoop() {
        List<Name> names = new ArrayList<>();
        names.add(new Name('x', "?"));
        int many = 1 + below(6);
        String start = "(\\x:?.(x x) \\x:?.[{";
        String end = "<0}?x:(x x)])";
        switch (below(4)) {
            case 0:
                return start + "!@".repeat(many) + expression("i", names, 1) + end;
            case 1:
                return start + "!" + "<".repeat(2 * many) + "@" + expression("i", names, 1) + ":&?>:&i>".repeat(many) + end;
            case 2:
                // The function in the cell gets more casts around it in each round, and is called through them.
                names.add(new Name('c', "&(i>i)"));
                return "(\\c:&(i>i)." + start + "((c=" + "<<".repeat(many) + "!c" + casts("(?>?)", "(i>i)", many) + ") "
                    + expression("i", names, 1) + ")" + end + " @\\y:i." + expression("i", List.of(new Name('y', "i")), 1) + ")";
            default:
                // So does the cell in the cell.
                names.add(new Name('c', "&&?"));
                return "(\\c:&&?." + start + "!(c=" + "<<".repeat(many) + "!c" + casts("&i", "&?", many) + ")" + end + " @@"
                    + expression("?", new ArrayList<>(), 1) + ")";
        }
    }

    private String casts(String to, String back, int many) {
        StringBuilder casts = new StringBuilder();
        for (int i = 0; i < many; i++) {
            casts.append(':').append(below(3) == 0 ? "?" : to).append(">:").append(back).append('>');
        }
        return casts.toString();
    }

    private String damaged(String text) {
        int at = below(text.length());
        String sign = "" + SIGNS.charAt(below(SIGNS.length()));
        int how = below(3);
        return text.substring(0, at) + (how == 0 ? "" : sign) + text.substring(how == 1 ? at : at + 1);
    }

    private String type(int size) {
        int kind = below(size <= 0 ? 3 : 6);
        switch (kind) {
            case 0:
                return "i";
            case 1:
                return "b";
            case 2:
                return "?";
            case 3:
                return "&" + type(size - 1);
            default:
                return "(" + type(size - 1) + ">" + type(size - 1) + ")";
        }
    }

    /** A type that is mostly consistent with t. */
    private String near(String t) {
        int how = below(40);
        if (how == 0) {
            return type(1);
        }
        if (how < 8) {
            return "?";
        }
        if (t.equals("?") && how < 25) {
            return type(2);
        }
        if (t.startsWith("&")) {
            return "&" + near(t.substring(1));
        }
        if (t.startsWith("(")) {
            String[] parts = parts(t);
            return "(" + near(parts[0]) + ">" + near(parts[1]) + ")";
        }
        return t;
    }

    private static String[] parts(String function) {
        int open = 0;
        for (int i = 1;; i++) {
            char c = function.charAt(i);
            if (c == '>' && open == 0) {
                return new String[] {function.substring(1, i), function.substring(i + 1, function.length() - 1)};
            }
            open += c == '(' ? 1 : c == ')' ? -1 : 0;
        }
    }

    private String expression(String wanted, List<Name> names, int size) {
        String t = below(4) == 0 ? near(wanted) : wanted;
        if (below(3) == 0) {
            String name = variable(t, names);
            if (!name.isEmpty()) {
                return name;
            }
        }
        if (size <= 0) {
            return small(t, names);
        }
        switch (below(9)) {
            case 0:
                return "<" + expression(near(t), names, size - 1) + ":" + t + ">";
            case 1:
                return call(t, names, size);
            case 2:
                String argument = type(1);
                return "(" + expression("(" + argument + ">" + t + ")", names, size - 1) + " " + expression(argument, names, size - 1) + ")";
            case 3:
                return "[" + expression("b", names, size - 2) + "?" + expression(t, names, size - 1) + ":" + expression(t, names, size - 1) + "]";
            case 4:
                return "!" + expression("&" + t, names, size - 1);
            case 5:
                return "(" + expression("&" + t, names, size - 1) + "=" + expression(t, names, size - 1) + ")";
            default:
                return ownForm(t, names, size);
        }
    }

    private String call(String t, List<Name> names, int size) {
        String argument = type(2);
        List<Name> more = new ArrayList<>(names);
        char letter = "xyzfgc".charAt(below(6));
        more.add(new Name(letter, argument));
        return "(\\" + letter + ":" + argument + "." + expression(t, more, size - 1) + " " + expression(argument, names, size - 1) + ")";
    }

    private String variable(String t, List<Name> names) {
        if (names.isEmpty()) {
            return "";
        }
        for (int tries = 0; tries < 4; tries++) {
            Name name = names.get(below(names.size()));
            if (Reference.consistent(name.type, t)) {
                return "" + name.letter;
            }
        }
        return "";
    }

    private String ownForm(String t, List<Name> names, int size) {
        if (t.equals("i")) {
            switch (below(3)) {
                case 0:
                    return "$" + expression("i", names, size - 1);
                case 1:
                    return "{" + expression("i", names, size - 1) + "-" + expression("i", names, size - 1) + "}";
                default:
                    return "{" + expression("i", names, size - 1) + "+" + expression("i", names, size - 1) + "}";
            }
        }
        if (t.equals("b")) {
            return "{" + expression("i", names, size - 1) + "<" + expression("i", names, size - 1) + "}";
        }
        if (t.equals("?")) {
            return below(3) == 0
                ? "(" + expression("?", names, size - 1) + (below(2) == 0 ? " " : "=") + expression("?", names, size - 1) + ")"
                : "<" + expression(type(2), names, size - 1) + ":?>";
        }
        if (t.startsWith("&")) {
            return "@" + expression(t.substring(1), names, size - 1);
        }
        return function(t, names, size - 1);
    }

    private String function(String t, List<Name> names, int size) {
        String[] parts = parts(t);
        List<Name> more = new ArrayList<>(names);
        char letter = "xyzfgc".charAt(below(6));
        more.add(new Name(letter, parts[0]));
        return "\\" + letter + ":" + parts[0] + "." + expression(parts[1], more, size);
    }

    private String small(String t, List<Name> names) {
        if (t.equals("i")) {
            return "" + below(1000);
        }
        if (t.equals("b")) {
            return below(2) == 0 ? "T" : "F";
        }
        if (t.equals("?")) {
            return "<" + (below(2) == 0 ? "1" : "T") + ":?>";
        }
        if (t.startsWith("&")) {
            return "@" + expression(t.substring(1), names, 0);
        }
        return function(t, names, 0);
    }
}
