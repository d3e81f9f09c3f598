import com.sun.source.tree.CompilationUnitTree;
import com.sun.source.tree.MethodInvocationTree;
import com.sun.source.tree.MethodTree;
import com.sun.source.tree.Tree;
import com.sun.source.util.JavacTask;
import com.sun.source.util.TreePath;
import com.sun.source.util.TreePathScanner;
import com.sun.source.util.Trees;
import java.lang.reflect.Constructor;
import java.lang.reflect.Field;
import java.lang.reflect.Method;
import java.lang.reflect.Modifier;
import java.nio.file.Files;
import java.nio.file.Path;
import java.util.Arrays;
import java.util.HashMap;
import java.util.HashSet;
import java.util.Map;
import java.util.Set;
import java.util.TreeSet;
import java.util.regex.Matcher;
import java.util.regex.Pattern;
import javax.lang.model.element.Element;
import javax.tools.JavaCompiler;
import javax.tools.StandardJavaFileManager;
import javax.tools.ToolProvider;

/** The rules of LANGUAGE.md that can be seen from the source or from the compiled class. */
public final class LanguageTest {
    private static final Path SOURCE = Path.of("src/main/java/VacuumDesk.java");
    private static final Path DOCUMENT = Path.of("../shared/DOC.md");
    private static int wrong;

    private LanguageTest() {
    }

    private static void must(boolean holds, String rule) {
        if (!holds) {
            wrong++;
            System.out.println("LanguageTest: " + rule);
        }
    }

    private static String signature(Method m) {
        return m.getReturnType().getSimpleName() + " " + m.getName() + "/" + m.getParameterCount();
    }

    private static Set<String> faceOfDocument() throws Exception {
        Set<String> face = new TreeSet<>();
        Matcher m = Pattern.compile("public (int|long) (\\w+)\\(([^)]*)\\);").matcher(Files.readString(DOCUMENT));
        while (m.find()) {
            String inside = m.group(3).trim();
            face.add(m.group(1) + " " + m.group(2) + "/" + (inside.isEmpty() ? 0 : inside.split(",").length));
        }
        return face;
    }

    private static void face() throws Exception {
        Set<String> face = faceOfDocument();
        Set<String> found = new TreeSet<>();
        Set<String> names = new TreeSet<>();
        for (Method m : VacuumDesk.class.getDeclaredMethods()) {
            if (Modifier.isPublic(m.getModifiers())) {
                found.add(signature(m));
                names.add(m.getName());
            } else {
                must(Modifier.isPrivate(m.getModifiers()), "rule 1: " + m + " is neither public nor private");
            }
        }
        must(face.size() > 40 && face.equals(found), "rule 1: the face is " + found + ", due is " + face);
        must(Modifier.isFinal(VacuumDesk.class.getModifiers()), "rule 1: the class is not final");
        for (Constructor<?> c : VacuumDesk.class.getDeclaredConstructors())
            must(c.getParameterCount() == 0 && Modifier.isPublic(c.getModifiers()), "rule 1: constructor " + c);
        for (Field f : VacuumDesk.class.getDeclaredFields())
            must(Modifier.isPrivate(f.getModifiers()) || f.getName().equals("NONE"), "rule 1: " + f);
        for (Class<?> c : VacuumDesk.class.getDeclaredClasses())
            for (Method m : c.getDeclaredMethods())
                must(!names.contains(m.getName()), "rule 1: " + m + " bears the name of a public one");
        for (Method m : VacuumDesk.class.getDeclaredMethods())
            must(Modifier.isPublic(m.getModifiers()) || !names.contains(m.getName()), "rule 1: private " + m);
    }

    private static void classes() {
        Class<?>[] inside = VacuumDesk.class.getDeclaredClasses();
        must(inside.length <= 11, "rule 11: " + inside.length + " classes inside");
        for (Class<?> c : inside) {
            must(Modifier.isStatic(c.getModifiers()) && !Modifier.isPublic(c.getModifiers()), "rule 2: " + c);
            checkClass(c);
        }
        checkClass(VacuumDesk.class);
    }

    private static void checkClass(Class<?> c) {
        long own = Arrays.stream(c.getDeclaredFields()).filter(f -> !Modifier.isStatic(f.getModifiers())).count();
        must(own <= 20, "rule 11: " + c + " has " + own + " fields");
        for (Field f : c.getDeclaredFields()) {
            boolean constant = f.getType() == int.class || f.getType() == long.class || f.getType() == boolean.class
                || f.getType() == int[].class || f.getType() == long[].class;
            if (Modifier.isStatic(f.getModifiers())) must(Modifier.isFinal(f.getModifiers()) && constant, "rule 5: " + f);
        }
        for (Method m : c.getDeclaredMethods()) must(m.getParameterCount() <= 7, "rule 11: " + m);
    }

    /** The source without comments, line by line as before. */
    private static String bare(String source) {
        Matcher m = Pattern.compile("/\\*.*?\\*/|//[^\\n]*", Pattern.DOTALL).matcher(source);
        return m.replaceAll(r -> r.group().replaceAll("[^\\n]", ""));
    }

    private static void words() throws Exception {
        String source = bare(Files.readString(SOURCE));
        for (String word : new String[] {"throw", "throws", "try", "catch", "synchronized", "assert", "var", "record", "Object",
            "hashCode", "toString", "System.out", "double", "float", "Exact", "Iterator", "protected", "volatile", "native"})
            must(!Pattern.compile("\\b" + word + "\\b").matcher(source).find(), "the word " + word);
        must(!source.contains("->") && !source.contains("::"), "rule 2: a lambda or a method reference");
        must(!source.contains("package "), "a package line");
        Matcher imports = Pattern.compile("import ([^;]+);").matcher(source);
        while (imports.find()) must(imports.group(1).equals("java.util.Arrays"), "rule 4: import " + imports.group(1));
        Matcher library = Pattern.compile("\\b(Arrays|System|Math|Integer|Long)\\.(\\w+)").matcher(source);
        Set<String> known = Set.of("Arrays.fill", "System.arraycopy", "Math.max", "Math.min", "Math.abs", "Integer.bitCount",
            "Integer.numberOfTrailingZeros");
        while (library.find()) must(known.contains(library.group()), "rule 4: " + library.group());
        Matcher filled = Pattern.compile("Arrays\\.fill\\((\\w+)").matcher(source);
        while (filled.find()) must(!source.contains("boolean[] " + filled.group(1)), "rule 4: fill over " + filled.group(1));
        for (int i = 0; i < source.length(); i++) must(source.charAt(i) < 128, "rule 4: a sign above 127 at " + i);
    }

    private static void methodLengths() throws Exception {
        String[] lines = Files.readString(SOURCE).split("\n");
        Pattern head = Pattern.compile("^( {4}| {8})(public |private |static |final )*[\\w\\[\\]]+ ?\\w*\\(.*\\{$");
        for (int i = 0; i < lines.length; i++) {
            Matcher m = head.matcher(lines[i]);
            if (!m.matches()) continue;
            int end = i;
            while (end < lines.length && !lines[end].equals(m.group(1) + "}")) end++;
            must(end - i <= 60, "rule 11: " + (end - i) + " lines at line " + (i + 1));
        }
    }

    /** For each method of the file the methods of the file that it calls, as the compiler sees them. */
    private static Map<Element, Set<Element>> callsInside() throws Exception {
        Map<Element, Set<Element>> calls = new HashMap<>();
        JavaCompiler compiler = ToolProvider.getSystemJavaCompiler();
        try (StandardJavaFileManager files = compiler.getStandardFileManager(null, null, null)) {
            JavacTask task = (JavacTask) compiler.getTask(null, files, null, null, null, files.getJavaFileObjects(SOURCE));
            Iterable<? extends CompilationUnitTree> units = task.parse();
            task.analyze();
            Trees trees = Trees.instance(task);
            for (CompilationUnitTree unit : units) new CallScanner(trees, calls).scan(unit, null);
        }
        for (Set<Element> called : calls.values()) called.retainAll(calls.keySet());
        return calls;
    }

    private static final class CallScanner extends TreePathScanner<Void, Element> {
        private final Trees trees;
        private final Map<Element, Set<Element>> calls;

        CallScanner(Trees trees, Map<Element, Set<Element>> calls) {
            this.trees = trees;
            this.calls = calls;
        }

        @Override
        public Void visitMethod(MethodTree method, Element outer) {
            Element own = trees.getElement(getCurrentPath());
            calls.put(own, new HashSet<>());
            return super.visitMethod(method, own);
        }

        @Override
        public Void visitMethodInvocation(MethodInvocationTree call, Element own) {
            Tree name = call.getMethodSelect();
            if (own != null) calls.get(own).add(trees.getElement(new TreePath(getCurrentPath(), name)));
            return super.visitMethodInvocation(call, own);
        }
    }

    /** How many calls stand open at most below and with this one; the guard ends a recursion. */
    private static int depth(Map<Element, Set<Element>> calls, Element method, int open) {
        int deepest = 0;
        for (Element called : calls.get(method))
            if (open < 20) deepest = Math.max(deepest, depth(calls, called, open + 1));
        return deepest + 1;
    }

    private static void callDepth() throws Exception {
        Map<Element, Set<Element>> calls = callsInside();
        int edges = calls.values().stream().mapToInt(Set::size).sum();
        must(calls.size() > 100 && edges > 100, "only " + edges + " calls of " + calls.size() + " methods were found");
        for (Element method : calls.keySet()) {
            int depth = depth(calls, method, 1);
            must(depth <= 8, "rule 11: calls go " + depth + " deep from " + method);
        }
    }

    public static void main(String[] args) throws Exception {
        face();
        classes();
        words();
        methodLengths();
        callDepth();
        System.out.println(wrong == 0 ? "LanguageTest: all rules hold that it looks at" : "LanguageTest: " + wrong + " faults");
        if (wrong != 0) System.exit(1);
    }
}
