import java.util.ArrayList;
import java.util.List;

/**
 * The document a second time, plainly recursive: types are texts, functions and cells are objects, and
 * whatever ends a run is thrown. It shares no way of working with BlameDesk.
 */
final class Reference {
    private static final String DIGITS = "0123456789";
    private static final String LETTERS = "abcdefghijklmnopqrstuvwxyz";

    /** What check answered, the error's position, and the program's type. */
    int answer;
    int error = -1;
    String type = "";

    /** How the latest run ended, and what it left. */
    int blamed;
    Object value;
    List<Integer> outputs = new ArrayList<>();
    int calls;
    int stored;

    private final String text;
    private int at;
    private Node root;
    private int fuel;
    private int made;

    Reference(String text) {
        this.text = text;
        try {
            root = expression(1);
            if (at != text.length()) {
                throw new NoExpression();
            }
            type = check(root, null);
        } catch (NoExpression none) {
            answer = 1;
        } catch (Wrong wrong) {
            answer = 2;
            error = wrong.position;
        }
    }

    // Reading

    private static final class NoExpression extends RuntimeException {
        private static final long serialVersionUID = 1;
    }

    private static final class Node {
        final int position;
        String form;
        String word = "";
        String written = "";
        final List<Node> parts = new ArrayList<>();
        /** The types that the parts have, and are cast to. */
        final List<String> from = new ArrayList<>();
        final List<String> to = new ArrayList<>();

        Node(int position) {
            this.position = position;
        }
    }

    private char next() {
        if (at >= text.length()) {
            throw new NoExpression();
        }
        return text.charAt(at++);
    }

    private char nextOf(String allowed) {
        char c = next();
        if (allowed.indexOf(c) < 0) {
            throw new NoExpression();
        }
        return c;
    }

    private Node expression(int depth) {
        if (depth > 20) {
            throw new NoExpression();
        }
        Node n = new Node(at);
        char c = next();
        n.form = "" + c;
        if (DIGITS.indexOf(c) >= 0) {
            n.form = "number";
            n.word = "" + c;
            while (at < text.length() && DIGITS.indexOf(text.charAt(at)) >= 0) {
                n.word += next();
            }
            if (n.word.length() > 3) {
                throw new NoExpression();
            }
        } else if (LETTERS.indexOf(c) >= 0) {
            n.form = "variable";
            n.word = "" + c;
        } else if (c == '\\') {
            n.word = "" + nextOf(LETTERS);
            nextOf(":");
            n.written = type(depth + 1);
            nextOf(".");
            n.parts.add(expression(depth + 1));
        } else if (c == '(' || c == '{') {
            n.parts.add(expression(depth + 1));
            n.form = "" + nextOf(c == '(' ? " =" : "+-<");
            if (n.form.equals("<")) {
                n.form = "less";
            }
            n.parts.add(expression(depth + 1));
            nextOf(c == '(' ? ")" : "}");
        } else if (c == '[') {
            n.parts.add(expression(depth + 1));
            nextOf("?");
            n.parts.add(expression(depth + 1));
            nextOf(":");
            n.parts.add(expression(depth + 1));
            nextOf("]");
        } else if (c == '<') {
            n.parts.add(expression(depth + 1));
            nextOf(":");
            n.written = type(depth + 1);
            nextOf(">");
        } else if (c == '@' || c == '!' || c == '$') {
            n.parts.add(expression(depth + 1));
        } else if (c != 'T' && c != 'F') {
            throw new NoExpression();
        }
        return n;
    }

    private String type(int depth) {
        if (depth > 20) {
            throw new NoExpression();
        }
        char c = nextOf("ib?&(");
        if (c == '&') {
            return "&" + type(depth + 1);
        }
        if (c != '(') {
            return "" + c;
        }
        String t = type(depth + 1);
        nextOf(">");
        String u = type(depth + 1);
        nextOf(")");
        return "(" + t + ">" + u + ")";
    }

    // Types as texts

    private static boolean isFunction(String t) {
        return t.startsWith("(");
    }

    private static boolean isCell(String t) {
        return t.startsWith("&");
    }

    private static int middle(String function) {
        int open = 0;
        for (int i = 1;; i++) {
            char c = function.charAt(i);
            if (c == '>' && open == 0) {
                return i;
            }
            open += c == '(' ? 1 : c == ')' ? -1 : 0;
        }
    }

    private static String argument(String function) {
        return function.substring(1, middle(function));
    }

    private static String given(String function) {
        return function.substring(middle(function) + 1, function.length() - 1);
    }

    private static String content(String cell) {
        return cell.substring(1);
    }

    static boolean consistent(String t, String u) {
        if (t.equals(u) || t.equals("?") || u.equals("?")) {
            return true;
        }
        if (isFunction(t) && isFunction(u)) {
            return consistent(argument(t), argument(u)) && consistent(given(t), given(u));
        }
        return isCell(t) && isCell(u) && consistent(content(t), content(u));
    }

    private static String ground(String t) {
        return isFunction(t) ? "(?>?)" : isCell(t) ? "&?" : t;
    }

    // Checking

    private static final class Wrong extends RuntimeException {
        private static final long serialVersionUID = 1;
        final int position;

        Wrong(int position) {
            this.position = position;
        }
    }

    private record Names(String name, String type, Names around) {
    }

    private String check(Node n, Names names) {
        if (n.form.equals("\\")) {
            String u = check(n.parts.get(0), new Names(n.word, n.written, names));
            n.from.add(u);
            n.to.add(u);
            return "(" + n.written + ">" + u + ")";
        }
        for (Node part : n.parts) {
            String t = check(part, names);
            n.from.add(t);
            n.to.add(t);
        }
        String e = n.parts.isEmpty() ? "" : n.from.get(0);
        switch (n.form) {
            case "number":
                return "i";
            case "T":
            case "F":
                return "b";
            case "variable":
                for (Names m = names; m != null; m = m.around) {
                    if (m.name.equals(n.word)) {
                        return m.type;
                    }
                }
                throw new Wrong(n.position);
            case " ":
                if (isFunction(e)) {
                    must(n, 1, argument(e));
                    return given(e);
                }
                mustBeOpen(n, e);
                must(n, 0, "(?>?)");
                must(n, 1, "?");
                return "?";
            case "=":
                if (isCell(e)) {
                    must(n, 1, content(e));
                    return content(e);
                }
                mustBeOpen(n, e);
                must(n, 0, "&?");
                must(n, 1, "?");
                return "?";
            case "+":
            case "-":
            case "less":
                must(n, 0, "i");
                must(n, 1, "i");
                return n.form.equals("less") ? "b" : "i";
            case "[":
                must(n, 0, "b");
                must(n, 2, n.from.get(1));
                return n.from.get(1);
            case "@":
                return "&" + e;
            case "!":
                if (isCell(e)) {
                    return content(e);
                }
                mustBeOpen(n, e);
                must(n, 0, "&?");
                return "?";
            case "<":
                must(n, 0, n.written);
                return n.written;
            case "$":
                must(n, 0, "i");
                return "i";
            default:
                throw new IllegalStateException(n.form);
        }
    }

    private static void mustBeOpen(Node n, String e) {
        if (!e.equals("?")) {
            throw new Wrong(n.parts.get(0).position);
        }
    }

    private static void must(Node n, int part, String t) {
        if (!consistent(n.from.get(part), t)) {
            throw new Wrong(n.parts.get(part).position);
        }
        n.to.set(part, t);
    }

    // Running

    private static final class Ended extends RuntimeException {
        private static final long serialVersionUID = 1;
        final int how;

        Ended(int how) {
            this.how = how;
        }
    }

    private record Tagged(String ground, Object value) {
    }

    private interface Function {
        Object call(Object argument);
    }

    private interface Cell {
        Object read();

        void write(Object written);
    }

    private record Bound(String name, Object value, Bound around) {
    }

    int run(int most) {
        fuel = most;
        made = 0;
        calls = 0;
        stored = 0;
        blamed = -1;
        value = null;
        outputs = new ArrayList<>();
        try {
            value = work(root, null);
            return 1;
        } catch (Ended ended) {
            return ended.how;
        }
    }

    int result(int what) {
        if (value == null) {
            return -1;
        }
        Object v = value instanceof Tagged t ? t.value : value;
        switch (what) {
            case 0:
                return v instanceof Integer ? 0 : v instanceof Boolean ? 1 : v instanceof Function ? 2 : 3;
            case 1:
                return v instanceof Integer i ? i : v instanceof Boolean b && b ? 1 : 0;
            case 2:
                return value instanceof Tagged ? 1 : 0;
            default:
                return -1;
        }
    }

    int output(int k) {
        if (k == -1) {
            return outputs.size();
        }
        return k < 0 || k > 15 || k >= outputs.size() ? 0 : outputs.get(outputs.size() - 1 - k);
    }

    private Object part(Node n, int k, Bound bound) {
        return cast(work(n.parts.get(k), bound), n.from.get(k), n.to.get(k), n.position, false);
    }

    private Object work(Node n, Bound bound) {
        switch (n.form) {
            case "number":
                return Integer.parseInt(n.word);
            case "T":
                return true;
            case "F":
                return false;
            case "variable":
                Bound b = bound;
                while (!b.name.equals(n.word)) {
                    b = b.around;
                }
                return b.value;
            case "\\":
                return (Function) argument -> {
                    if (calls == fuel) {
                        throw new Ended(3);
                    }
                    calls++;
                    return work(n.parts.get(0), new Bound(n.word, argument, bound));
                };
            case "[":
                return part(n, (Boolean) part(n, 0, bound) ? 1 : 2, bound);
            default:
        }
        Object e = part(n, 0, bound);
        switch (n.form) {
            case "@":
                return newCell(e);
            case "!":
                return ((Cell) e).read();
            case "<":
                return e;
            case "$":
                outputs.add((Integer) e);
                return e;
            default:
        }
        Object f = part(n, 1, bound);
        switch (n.form) {
            case " ":
                return ((Function) e).call(f);
            case "=":
                ((Cell) e).write(f);
                return f;
            case "+":
                return (Integer) e + (Integer) f;
            case "-":
                return (Integer) e - (Integer) f;
            case "less":
                return (Integer) e < (Integer) f;
            default:
                throw new IllegalStateException(n.form);
        }
    }

    private Cell newCell(Object first) {
        if (stored == 40) {
            throw new Ended(4);
        }
        stored++;
        Object[] content = {first};
        return new Cell() {
            @Override
            public Object read() {
                return content[0];
            }

            @Override
            public void write(Object written) {
                content[0] = written;
            }
        };
    }

    private void makeByCast() {
        if (made == 200) {
            throw new Ended(4);
        }
        made++;
    }

    private Object cast(Object v, String t, String u, int p, boolean other) {
        if (t.equals(u)) {
            return v;
        }
        if (u.equals("?")) {
            return new Tagged(ground(t), cast(v, t, ground(t), p, other));
        }
        if (t.equals("?")) {
            Tagged tagged = (Tagged) v;
            if (!tagged.ground.equals(ground(u))) {
                blamed = 2 * p + (other ? 1 : 0);
                throw new Ended(2);
            }
            return cast(tagged.value, tagged.ground, u, p, other);
        }
        makeByCast();
        if (isFunction(t)) {
            return (Function) argument -> {
                Object inner = cast(argument, argument(u), argument(t), p, !other);
                return cast(((Function) v).call(inner), given(t), given(u), p, other);
            };
        }
        return new Cell() {
            @Override
            public Object read() {
                return cast(((Cell) v).read(), content(t), content(u), p, other);
            }

            @Override
            public void write(Object written) {
                ((Cell) v).write(cast(written, content(u), content(t), p, !other));
            }
        };
    }
}
