import java.io.IOException;
import java.lang.reflect.Constructor;
import java.lang.reflect.Executable;
import java.lang.reflect.Field;
import java.lang.reflect.Method;
import java.lang.reflect.Modifier;
import java.nio.file.Files;
import java.nio.file.Path;
import java.util.Arrays;
import java.util.HashSet;
import java.util.Set;
import java.util.TreeSet;
import java.util.regex.Pattern;

/** The document's public face, and the rules of the language that can be seen from outside. */
public final class FaceTest {
    private static final String[] FACE = {
        "int index(int, int) A", "int budget(int, int) A", "int part(int, int) AS",
        "int moves(int, int, int, int) A", "int care(int, int, int) A",
        "long share(int, int, int) A", "int cares(int, int) A", "int most(int, int) A",
        "int work(int, int, int, int) AS", "int join(int, int, int) A",
        "boolean clash(int, int, boolean) A", "int needs(int, int) A", "int choose() ",
        "boolean chosen(int) A", "int costs(int) A", "int lacks(int) ", "void money(int, int) A",
        "long reserve(int) A", "int shortIn() ", "int payment(int, int, int) A",
        "int rest(int, int, int, int) A"};
    // What LANGUAGE.md leaves out, and catches that would answer a call by the machine's own throw.
    private static final String[] FORBIDDEN = {
        "\\bfinally\\b", "\\bsynchronized\\b", "\\bassert\\b", "::", "\\bpackage\\b",
        "Exact\\(", "\\bstatic \\{", "\\bgetMessage\\b", "\\bRandom\\b", "\\bThread\\b",
        "\\bSystem\\.(?!arraycopy)", "\\bNullPointerException\\b", "\\bClassCastException\\b",
        "\\bArrayIndexOutOfBoundsException\\b", "\\bNegativeArraySizeException\\b",
        "\\bArrayStoreException\\b", "\\bThrowable\\b", "\\bException\\b"};
    private static final Pattern IMPORTS = Pattern.compile(
        "import java\\.util\\.(Arrays|ArrayList|List|Iterator|NoSuchElementException);");

    public static void main(String[] args) throws IOException, ReflectiveOperationException {
        methods();
        otherMembers();
        none();
        insideClasses();
        source();
        Check.end();
    }

    private static void expect(String rule, boolean holds) {
        Check.due(rule, holds, true);
    }

    private static String kinds(Executable call) {
        StringBuilder kinds = new StringBuilder();
        for (Class<?> kind : call.getExceptionTypes()) {
            kinds.append(kind == IllegalArgumentException.class ? "A"
                : kind == IllegalStateException.class ? "S" : "?");
        }
        return kinds.toString();
    }

    private static String told(Method method) {
        StringBuilder text = new StringBuilder();
        text.append(method.getReturnType()).append(' ').append(method.getName()).append('(');
        Class<?>[] types = method.getParameterTypes();
        for (int at = 0; at < types.length; at++) {
            text.append(at == 0 ? "" : ", ").append(types[at]);
        }
        return text.append(") ").append(kinds(method)).toString();
    }

    private static void methods() {
        Set<String> shown = new TreeSet<>();
        Set<String> names = new HashSet<>();
        for (Method method : CostYears.class.getDeclaredMethods()) {
            if (Modifier.isPublic(method.getModifiers())) {
                shown.add(told(method));
                names.add(method.getName());
                expect(method + " is not static", !Modifier.isStatic(method.getModifiers()));
            }
        }
        Set<String> due = new TreeSet<>(Arrays.asList(FACE));
        expect("the face is " + due + ", not " + shown, shown.equals(due));
        for (Method method : CostYears.class.getDeclaredMethods()) {
            if (method.isSynthetic()) {
                continue;
            }
            boolean isPrivate = Modifier.isPrivate(method.getModifiers());
            expect(method + " is public or private",
                isPrivate || Modifier.isPublic(method.getModifiers()));
            expect(method + " has a name of its own",
                !isPrivate || !names.contains(method.getName()));
        }
    }

    private static void otherMembers() {
        int modifiers = CostYears.class.getModifiers();
        expect("public and final", Modifier.isPublic(modifiers) && Modifier.isFinal(modifiers));
        Constructor<?>[] constructors = CostYears.class.getDeclaredConstructors();
        expect("one public constructor of an int", constructors.length == 1
            && Modifier.isPublic(constructors[0].getModifiers())
            && Arrays.equals(constructors[0].getParameterTypes(), new Class<?>[] {int.class})
            && constructors[0].getExceptionTypes().length == 0);
        for (Field field : CostYears.class.getDeclaredFields()) {
            if (field.isSynthetic()) {
                continue;
            }
            boolean isNone = field.getName().equals("NONE");
            expect(field + " is private, but for NONE",
                isNone ? Modifier.isPublic(field.getModifiers())
                    : Modifier.isPrivate(field.getModifiers()));
        }
    }

    /** Asked of the class itself, as the compiler writes a constant's value into its users. */
    private static void none() throws ReflectiveOperationException {
        Field none = CostYears.class.getField("NONE");
        expect("NONE is an int, static and final", none.getType() == int.class
            && Modifier.isStatic(none.getModifiers()) && Modifier.isFinal(none.getModifiers()));
        Check.due("NONE", none.getInt(null), -1);
    }

    private static void insideClasses() {
        Class<?>[] inside = CostYears.class.getDeclaredClasses();
        expect("at most twelve classes", inside.length < 12);
        for (Class<?> kind : inside) {
            expect(kind + " is static", Modifier.isStatic(kind.getModifiers()));
            expect(kind + " is not shown", !Modifier.isPublic(kind.getModifiers())
                && !Modifier.isProtected(kind.getModifiers()));
            for (Field field : kind.getDeclaredFields()) {
                expect(field + ": static ones are final", !Modifier.isStatic(field.getModifiers())
                    || field.isSynthetic() || Modifier.isFinal(field.getModifiers()));
            }
        }
    }

    private static void source() throws IOException {
        String text = Files.readString(Path.of("src/main/java/CostYears.java"));
        String code = text.replaceAll("(?s)/\\*.*?\\*/", "").replaceAll("//[^\n]*", "")
            .replaceAll("\"[^\"]*\"", "\"\"");
        for (String word : FORBIDDEN) {
            expect("no " + word, !Pattern.compile(word).matcher(code).find());
        }
        for (String line : code.split("\n")) {
            expect("an import that is listed: " + line,
                !line.startsWith("import ") || IMPORTS.matcher(line).matches());
            expect("no lambda: " + line, !line.contains("->") || line.contains("case ")
                || line.contains("default "));
        }
    }
}
