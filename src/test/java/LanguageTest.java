import com.sun.source.tree.BlockTree;
import com.sun.source.tree.ClassTree;
import com.sun.source.tree.CompilationUnitTree;
import com.sun.source.tree.MethodInvocationTree;
import com.sun.source.tree.MethodTree;
import com.sun.source.tree.NewArrayTree;
import com.sun.source.tree.NewClassTree;
import com.sun.source.tree.Tree;
import com.sun.source.tree.VariableTree;
import com.sun.source.util.JavacTask;
import com.sun.source.util.TreePathScanner;
import com.sun.source.util.Trees;
import java.io.File;
import java.io.IOException;
import java.util.LinkedHashMap;
import java.util.LinkedHashSet;
import java.util.List;
import java.util.Map;
import java.util.Set;
import java.util.TreeSet;
import javax.lang.model.element.Element;
import javax.lang.model.element.ElementKind;
import javax.lang.model.element.ExecutableElement;
import javax.lang.model.element.Modifier;
import javax.lang.model.element.TypeElement;
import javax.lang.model.element.VariableElement;
import javax.lang.model.type.ArrayType;
import javax.lang.model.type.DeclaredType;
import javax.lang.model.type.TypeKind;
import javax.lang.model.type.TypeMirror;
import javax.tools.JavaCompiler;
import javax.tools.StandardJavaFileManager;
import javax.tools.ToolProvider;

/** The program keeps to those rules of ../shared/LANGUAGE.md that can be seen in its text. */
public final class LanguageTest {
    private static final String PROGRAM = "src/main/java/BlameDesk.java";
    private static final int MOST_PARAMETERS = 7;
    private static final int MOST_LINES = 60;
    private static final int MOST_CALLS_DEEP = 8;
    private static final int MOST_CLASSES = 12;
    private static final int MOST_FIELDS = 20;
    // The one method of the library that the program needs.
    private static final Set<String> LIBRARY = Set.of("java.lang.String.charAt");
    // What the rules rule out, and what they leave but the program does without: no promise asks for an exception.
    private static final Set<Tree.Kind> RULED_OUT = Set.of(
        Tree.Kind.IMPORT, Tree.Kind.PACKAGE, Tree.Kind.LAMBDA_EXPRESSION, Tree.Kind.MEMBER_REFERENCE, Tree.Kind.TRY,
        Tree.Kind.THROW, Tree.Kind.SYNCHRONIZED, Tree.Kind.ASSERT, Tree.Kind.FLOAT_LITERAL, Tree.Kind.DOUBLE_LITERAL);

    private static final Due DUE = new Due();

    public static void main(String[] args) throws IOException {
        JavaCompiler compiler = ToolProvider.getSystemJavaCompiler();
        try (StandardJavaFileManager files = compiler.getStandardFileManager(null, null, null)) {
            JavacTask task = (JavacTask) compiler.getTask(null, files, null, List.of("-proc:none"), null,
                files.getJavaFileObjects(new File(PROGRAM)));
            CompilationUnitTree unit = task.parse().iterator().next();
            task.analyze();
            Seen seen = new Seen(Trees.instance(task), unit);
            seen.scan(unit, null);
            classesAreFewAndSmall(seen);
            namesOfPublicMethodsArePublic(seen);
            libraryIsTheListed(seen);
            recursionIsPrivateAndCarriesItsDepth(seen);
            callsGoEightDeep(seen);
        }
        DUE.end();
    }

    private static void fault(String rule, String where) {
        DUE.is("rule " + rule + ": " + where, false, true);
    }

    /** Looks at each part of the program's text, and keeps what the tests of the whole need. */
    private static final class Seen extends TreePathScanner<Void, Void> {
        final Map<ExecutableElement, Set<ExecutableElement>> calls = new LinkedHashMap<>();
        final Map<TypeElement, Integer> fields = new LinkedHashMap<>();
        private final Trees trees;
        private final CompilationUnitTree unit;
        private ExecutableElement method;

        Seen(Trees known, CompilationUnitTree scanned) {
            trees = known;
            unit = scanned;
        }

        @Override
        public Void scan(Tree tree, Void nothing) {
            if (tree != null && RULED_OUT.contains(tree.getKind())) {
                fault("2, 4 or 6", tree.getKind() + " in line " + line(tree, false));
            }
            return super.scan(tree, nothing);
        }

        @Override
        public Void visitClass(ClassTree tree, Void nothing) {
            TypeElement type = (TypeElement) trees.getElement(getCurrentPath());
            fields.put(type, 0);
            Set<Modifier> modifiers = type.getModifiers();
            if (type.getNestingKind().isNested() && !(modifiers.contains(Modifier.STATIC) && modifiers.contains(Modifier.PRIVATE))) {
                fault("1", type + " is not private and static, as all classes inside are here");
            }
            return super.visitClass(tree, nothing);
        }

        @Override
        public Void visitBlock(BlockTree tree, Void nothing) {
            if (getCurrentPath().getParentPath().getLeaf() instanceof ClassTree) {
                fault("5", "an initialiser block in line " + line(tree, false));
            }
            return super.visitBlock(tree, nothing);
        }

        @Override
        public Void visitMethod(MethodTree tree, Void nothing) {
            method = (ExecutableElement) trees.getElement(getCurrentPath());
            calls.put(method, new LinkedHashSet<>());
            if (tree.getParameters().size() > MOST_PARAMETERS) {
                fault("11", method + " has too many parameters");
            }
            if (line(tree, true) - line(tree, false) >= MOST_LINES) {
                fault("11", method + " is too long");
            }
            return super.visitMethod(tree, nothing);
        }

        @Override
        public Void visitVariable(VariableTree tree, Void nothing) {
            VariableElement variable = (VariableElement) trees.getElement(getCurrentPath());
            if (!isOfTypeListed(variable.asType())) {
                fault("3", variable + " is of type " + variable.asType());
            }
            if (variable.getKind() == ElementKind.FIELD) {
                if (!variable.getModifiers().contains(Modifier.STATIC)) {
                    fields.merge((TypeElement) variable.getEnclosingElement(), 1, Integer::sum);
                } else if (variable.getConstantValue() == null) {
                    fault("5", variable + " is static, but no constant");
                }
            }
            return super.visitVariable(tree, nothing);
        }

        @Override
        public Void visitMethodInvocation(MethodInvocationTree tree, Void nothing) {
            calls.get(method).add((ExecutableElement) trees.getElement(getCurrentPath()));
            return super.visitMethodInvocation(tree, nothing);
        }

        @Override
        public Void visitNewClass(NewClassTree tree, Void nothing) {
            isInConstructor(tree);
            return super.visitNewClass(tree, nothing);
        }

        @Override
        public Void visitNewArray(NewArrayTree tree, Void nothing) {
            isInConstructor(tree);
            return super.visitNewArray(tree, nothing);
        }

        private void isInConstructor(Tree tree) {
            if (method == null || method.getKind() != ElementKind.CONSTRUCTOR) {
                fault("12", "an object is made by a call, line " + line(tree, false));
            }
        }

        private long line(Tree tree, boolean ofItsEnd) {
            long at = ofItsEnd ? trees.getSourcePositions().getEndPosition(unit, tree)
                : trees.getSourcePositions().getStartPosition(unit, tree);
            return unit.getLineMap().getLineNumber(at);
        }
    }

    private static boolean isOfTypeListed(TypeMirror type) {
        if (type instanceof ArrayType row) {
            return row.getComponentType().getKind().isPrimitive() && isOfTypeListed(row.getComponentType());
        }
        if (type instanceof DeclaredType declared) {
            return isOwn(declared.asElement()) || declared.toString().equals("java.lang.String");
        }
        return type.getKind().isPrimitive() && type.getKind() != TypeKind.DOUBLE && type.getKind() != TypeKind.FLOAT;
    }

    private static boolean isOwn(Element element) {
        return element.toString().startsWith("BlameDesk");
    }

    private static void classesAreFewAndSmall(Seen seen) {
        DUE.is("rule 11: few classes", seen.fields.size() <= MOST_CLASSES, true);
        for (Map.Entry<TypeElement, Integer> type : seen.fields.entrySet()) {
            DUE.is("rule 11: few fields in " + type.getKey(), type.getValue() <= MOST_FIELDS, true);
        }
    }

    private static void namesOfPublicMethodsArePublic(Seen seen) {
        Set<String> faces = new TreeSet<>();
        for (ExecutableElement method : seen.calls.keySet()) {
            if (isPublic(method)) {
                faces.add(method.getSimpleName().toString());
            }
        }
        for (ExecutableElement method : seen.calls.keySet()) {
            if (!isPublic(method) && method.getKind() == ElementKind.METHOD && faces.contains(method.getSimpleName().toString())) {
                fault("1", method + " bears the name of a public method");
            }
        }
    }

    private static boolean isPublic(ExecutableElement method) {
        return method.getModifiers().contains(Modifier.PUBLIC) && method.getKind() == ElementKind.METHOD;
    }

    private static void libraryIsTheListed(Seen seen) {
        for (Set<ExecutableElement> called : seen.calls.values()) {
            for (ExecutableElement method : called) {
                String name = method.getEnclosingElement() + "." + method.getSimpleName();
                // A constructor calls that of Object before all else.
                if (!isOwn(method.getEnclosingElement()) && !LIBRARY.contains(name) && !name.equals("java.lang.Object.<init>")) {
                    fault("4", name + " is called");
                }
            }
        }
    }

    private static void recursionIsPrivateAndCarriesItsDepth(Seen seen) {
        for (ExecutableElement method : seen.calls.keySet()) {
            if (!reached(seen, method).contains(method)) {
                continue;
            }
            boolean carriesDepth = false;
            for (VariableElement parameter : method.getParameters()) {
                carriesDepth |= parameter.getSimpleName().contentEquals("depth");
            }
            DUE.is("rule 8: the depth is carried by " + method, carriesDepth, true);
            DUE.is("rule 8: private is " + method, method.getModifiers().contains(Modifier.PRIVATE), true);
        }
    }

    private static Set<ExecutableElement> reached(Seen seen, ExecutableElement from) {
        Set<ExecutableElement> reached = new LinkedHashSet<>();
        addReached(seen, from, reached);
        return reached;
    }

    private static void addReached(Seen seen, ExecutableElement from, Set<ExecutableElement> reached) {
        for (ExecutableElement called : seen.calls.getOrDefault(from, Set.of())) {
            if (reached.add(called)) {
                addReached(seen, called, reached);
            }
        }
    }

    private static void callsGoEightDeep(Seen seen) {
        for (ExecutableElement method : seen.calls.keySet()) {
            if (isPublic(method)) {
                int deep = deepest(seen, method, new LinkedHashSet<>());
                DUE.is("rule 11: " + deep + " calls deep goes " + method, deep <= MOST_CALLS_DEEP, true);
            }
        }
    }

    /** How many methods, none of them twice, stand open at most from this one on. */
    private static int deepest(Seen seen, ExecutableElement method, Set<ExecutableElement> open) {
        if (!seen.calls.containsKey(method) || !open.add(method)) {
            return 0;
        }
        int most = 0;
        for (ExecutableElement called : seen.calls.get(method)) {
            most = Math.max(most, deepest(seen, called, open));
        }
        open.remove(method);
        return most + 1;
    }
}
