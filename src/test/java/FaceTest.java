import java.lang.reflect.Field;
import java.lang.reflect.Method;
import java.lang.reflect.Modifier;
import java.nio.file.Files;
import java.nio.file.Path;
import java.util.Arrays;
import java.util.Set;
import java.util.TreeSet;

/** The face of the class is that of the document, and nothing of what LANGUAGE.md rules out stands in it. */
public final class FaceTest {
    private static final Path SOURCE = Path.of("src/main/java/Meniscus.java");
    private static final Path DOCUMENT = Path.of("../shared/DOC.md");
    private static final String[] FORBIDDEN = {"->", "::", "catch", "finally", "synchronized", "assert ", "@",
        "protected ", "System.", "Exact(", ".equals(", ".hashCode(", "volatile", "native", "static {", " var "};

    public static void main(String[] args) throws Exception {
        Checks.due("the public methods", methodsOfTheDocument(), FaceTest::publicMethods);
        Checks.due("final", true, () -> Modifier.isFinal(Meniscus.class.getModifiers()));
        Checks.due("the constructors", "[public Meniscus()]",
                () -> Arrays.toString(Meniscus.class.getDeclaredConstructors()));
        Checks.due("members that are seen but not of the document", Set.of(), FaceTest::seenOtherwise);
        Checks.due("methods inside with a public name", Set.of(), FaceTest::namesTwice);
        Checks.due("static fields that are not final", Set.of(), FaceTest::staticState);
        String source = Files.readString(SOURCE);
        for (String word : FORBIDDEN) {
            Checks.due("'" + word + "' in the source", false, () -> source.contains(word));
        }
        Checks.due("imports", "import java.util.NoSuchElementException;", () -> imports(source));
        Checks.end();
    }

    /** As Java prints a method, but without the names of parameters. */
    private static Set<String> methodsOfTheDocument() throws Exception {
        Set<String> methods = new TreeSet<>();
        for (String line : Files.readAllLines(DOCUMENT)) {
            if (line.startsWith("    public ") && !line.contains("Meniscus(")) {
                methods.add(line.strip().replaceAll("(int|char|boolean) \\w+(?=[,)])", "$1").replace(", ", ",")
                        .replace(";", ""));
            }
        }
        return methods;
    }

    private static Set<String> publicMethods() {
        Set<String> methods = new TreeSet<>();
        for (Method method : Meniscus.class.getMethods()) {
            if (method.getDeclaringClass() == Meniscus.class) {
                methods.add(method.toString().replace("Meniscus.", "").replaceAll("java\\.(lang|util)\\.", ""));
            }
        }
        return methods;
    }

    private static Set<String> seenOtherwise() {
        Set<String> seen = new TreeSet<>();
        for (Method method : Meniscus.class.getDeclaredMethods()) {
            if ((method.getModifiers() & (Modifier.PUBLIC | Modifier.PRIVATE)) == 0) {
                seen.add(method.toString());
            }
        }
        for (Field field : Meniscus.class.getDeclaredFields()) {
            if (!Modifier.isPrivate(field.getModifiers())) {
                seen.add(field.toString());
            }
        }
        for (Class<?> inside : Meniscus.class.getDeclaredClasses()) {
            if ((inside.getModifiers() & (Modifier.PUBLIC | Modifier.PROTECTED)) != 0) {
                seen.add(inside.toString());
            }
        }
        return seen;
    }

    private static Set<String> namesTwice() {
        Set<String> open = new TreeSet<>();
        Set<String> twice = new TreeSet<>();
        for (Method method : Meniscus.class.getDeclaredMethods()) {
            if (Modifier.isPublic(method.getModifiers())) {
                open.add(method.getName());
            }
        }
        for (Method method : Meniscus.class.getDeclaredMethods()) {
            if (!Modifier.isPublic(method.getModifiers()) && open.contains(method.getName())) {
                twice.add(method.toString());
            }
        }
        for (Class<?> inside : Meniscus.class.getDeclaredClasses()) {
            for (Method method : inside.getDeclaredMethods()) {
                if (open.contains(method.getName())) {
                    twice.add(method.toString());
                }
            }
        }
        return twice;
    }

    private static Set<String> staticState() {
        Set<String> found = new TreeSet<>();
        addStaticState(Meniscus.class, found);
        for (Class<?> inside : Meniscus.class.getDeclaredClasses()) {
            addStaticState(inside, found);
        }
        return found;
    }

    private static void addStaticState(Class<?> owner, Set<String> found) {
        for (Field field : owner.getDeclaredFields()) {
            if (Modifier.isStatic(field.getModifiers()) && !Modifier.isFinal(field.getModifiers())) {
                found.add(field.toString());
            }
        }
    }

    private static String imports(String source) {
        StringBuilder lines = new StringBuilder();
        source.lines().filter(line -> line.startsWith("import ")).forEach(lines::append);
        return lines.toString();
    }
}
