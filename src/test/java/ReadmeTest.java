import java.io.IOException;
import java.lang.reflect.Method;
import java.lang.reflect.Modifier;
import java.nio.file.Files;
import java.nio.file.Path;
import java.util.ArrayList;
import java.util.List;
import java.util.Set;
import java.util.TreeSet;
import java.util.regex.Matcher;
import java.util.regex.Pattern;
import java.util.stream.Stream;

/** What README.md says is so. */
public final class ReadmeTest {
    private static final String NEW_OBJECT = "BlameDesk desk = new BlameDesk();";
    // A call, its argument, the answer told behind it, and what is said of it.
    private static final Pattern CALL = Pattern.compile("desk\\.(\\w+)\\((\\w*|-\\d+)\\); +// (-?\\d+|true|false): (.*)");
    private static final Pattern QUOTED = Pattern.compile("\"(.*)\".*");
    private static final Pattern ROW = Pattern.compile("\\| `(\\w+\\([^`]*\\))` \\|.*");
    private static final Pattern NAMED = Pattern.compile("`(\\w+)`");

    private static final Due DUE = new Due();

    public static void main(String[] args) throws IOException, ReflectiveOperationException {
        List<String> readme = Files.readAllLines(Path.of("README.md"));
        answersAreAsTold(block(readme, "```java"));
        callsAreThoseOfTheFace(readme);
        DUE.is("named are the classes inside, " + classesInside(), named(readme, "## How it is built").equals(classesInside()), true);
        DUE.is("named are the tests, " + tests(), named(readme, "## How to run its tests").equals(tests()), true);
        commandsAreThere(block(readme, "```sh"));
        DUE.end();
    }

    /** The lines of all blocks that begin with a mark. */
    private static List<String> block(List<String> readme, String mark) {
        List<String> lines = new ArrayList<>();
        boolean isInside = false;
        for (String line : readme) {
            if (isInside && !line.equals("```")) {
                lines.add(line);
            }
            isInside = line.equals(mark) || isInside && !line.equals("```");
        }
        return lines;
    }

    private static void answersAreAsTold(List<String> lines) throws ReflectiveOperationException {
        DUE.is("an object is made first", lines.get(0).equals(NEW_OBJECT), true);
        BlameDesk desk = new BlameDesk();
        Set<String> called = new TreeSet<>();
        for (String line : lines.subList(1, lines.size())) {
            Matcher call = CALL.matcher(line);
            if (call.matches()) {
                called.add(call.group(1));
                String answer = String.valueOf(answer(desk, call.group(1), call.group(2)));
                DUE.is(line + " answered " + answer + ": as told", answer.equals(call.group(3)), true);
                isOfTextTold(call);
            } else {
                DUE.is("a call with its answer: " + line, line.isEmpty(), true);
            }
        }
        for (Method method : face()) {
            DUE.is("called is " + method.getName(), called.contains(method.getName()), true);
        }
    }

    private static Object answer(BlameDesk desk, String name, String argument) throws ReflectiveOperationException {
        if (argument.isEmpty()) {
            return BlameDesk.class.getMethod(name).invoke(desk);
        }
        if (argument.endsWith("L")) {
            return BlameDesk.class.getMethod(name, long.class).invoke(desk, word(argument));
        }
        return BlameDesk.class.getMethod(name, int.class).invoke(desk, Integer.parseInt(argument));
    }

    private static long word(String argument) {
        return Long.decode(argument.substring(0, argument.length() - 1));
    }

    /** What is told of a write begins with its characters. */
    private static void isOfTextTold(Matcher call) {
        if (call.group(1).equals("write")) {
            Matcher quoted = QUOTED.matcher(call.group(4));
            boolean isSo = quoted.matches() && Due.packed(quoted.group(1)) == word(call.group(2));
            DUE.is("written is what is told: " + call.group(), isSo, true);
        }
    }

    private static List<Method> face() {
        List<Method> face = new ArrayList<>();
        for (Method method : BlameDesk.class.getDeclaredMethods()) {
            if (Modifier.isPublic(method.getModifiers())) {
                face.add(method);
            }
        }
        return face;
    }

    private static void callsAreThoseOfTheFace(List<String> readme) {
        Set<String> told = new TreeSet<>();
        for (String line : readme) {
            Matcher row = ROW.matcher(line);
            if (row.matches()) {
                told.add(row.group(1).replaceAll(" \\w+\\)", ")"));
            }
        }
        Set<String> calls = new TreeSet<>();
        for (Method method : face()) {
            String parameter = method.getParameterCount() == 0 ? "" : method.getParameterTypes()[0].getName();
            calls.add(method.getName() + "(" + parameter + ")");
        }
        DUE.is("told are " + told + ", the calls are " + calls, told.equals(calls), true);
    }

    private static Set<String> classesInside() {
        Set<String> names = new TreeSet<>();
        for (Class<?> inside : BlameDesk.class.getDeclaredClasses()) {
            names.add(inside.getSimpleName());
        }
        return names;
    }

    private static Set<String> tests() throws IOException {
        Set<String> names = new TreeSet<>();
        try (Stream<Path> files = Files.list(Path.of("src/test/java"))) {
            files.map(file -> file.getFileName().toString()).filter(name -> name.endsWith("Test.java"))
                .forEach(name -> names.add(name.replace(".java", "")));
        }
        return names;
    }

    /** The names with a capital that a section tells. */
    private static Set<String> named(List<String> readme, String section) {
        Set<String> names = new TreeSet<>();
        boolean isInside = false;
        for (String line : readme) {
            isInside = line.startsWith("## ") ? line.equals(section) : isInside;
            Matcher name = NAMED.matcher(isInside ? line : "");
            while (name.find()) {
                if (Character.isUpperCase(name.group(1).charAt(0))) {
                    names.add(name.group(1));
                }
            }
        }
        return names;
    }

    private static void commandsAreThere(List<String> commands) {
        DUE.is("the commands", commands.equals(List.of("javac -d out src/main/java/BlameDesk.java", ".ci/run")), true);
        DUE.is("the program's file", Files.isRegularFile(Path.of("src/main/java/BlameDesk.java")), true);
        DUE.is(".ci/run can be run", Files.isExecutable(Path.of(".ci/run")), true);
    }
}
