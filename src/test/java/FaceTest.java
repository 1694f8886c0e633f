import java.io.IOException;
import java.lang.reflect.Constructor;
import java.lang.reflect.Field;
import java.lang.reflect.Method;
import java.lang.reflect.Modifier;
import java.nio.file.Files;
import java.nio.file.Path;
import java.util.Arrays;
import java.util.Set;
import java.util.TreeSet;
import java.util.regex.Matcher;
import java.util.regex.Pattern;

/** The public face, and those rules of LANGUAGE.md that can be seen by reflection or by words. */
public final class FaceTest {
    private static final Path SOURCE = Path.of("src/main/java/SweepRows.java");
    private static final Set<String> FACE = Set.of(
        "int blob(int, int)", "int result()", "boolean uses(int, int)", "boolean read(int)", "int build(int)",
        "boolean pin(int, boolean, int)", "int free(int)", "boolean lease(int, int)", "int tick(int)",
        "boolean weight(int, int)", "void fair(boolean)", "int begin(int)", "int step(int)",
        "boolean cut(boolean)", "int sweep(int)", "int order(int)", "int dry(int)", "int about(int, int)",
        "int used(int)", "int share(int)", "boolean whole(int)");
    private static final Pattern NOT_ALLOWED = Pattern.compile(
        "\\b(throw|throws|try|catch|synchronized|assert|package|native|transient|volatile)\\b"
        + "|->|::|Exact\\b|\\b(MAX|MIN)_VALUE\\b|\\bstatic\\s*\\{");
    private static final Set<String> LIBRARY = Set.of(
        "Math.max", "Math.min", "Long.bitCount", "Integer.bitCount", "Arrays.fill");

    public static void main(String[] args) throws IOException {
        methods();
        constructors();
        fields();
        insideClasses();
        sizes(SweepRows.class);
        words();
        library();
        Due.end();
    }

    private static void methods() {
        Set<String> open = new TreeSet<>();
        Set<String> openNames = new TreeSet<>();
        Set<String> closedNames = new TreeSet<>();
        for (Method method : SweepRows.class.getDeclaredMethods()) {
            String text = Arrays.toString(method.getParameterTypes());
            String list = "(" + text.substring(1, text.length() - 1) + ")";
            if (Modifier.isPrivate(method.getModifiers())) {
                closedNames.add(method.getName());
            } else {
                open.add(method.getReturnType() + " " + method.getName() + list);
                openNames.add(method.getName());
                Due.yes("public and not static: " + method, method.getModifiers() == Modifier.PUBLIC);
            }
        }
        Due.yes("the methods are those of the document: " + open, open.equals(FACE));
        closedNames.retainAll(openNames);
        Due.yes("no private method bears a public one's name: " + closedNames, closedNames.isEmpty());
    }

    private static void constructors() {
        Constructor<?>[] all = SweepRows.class.getDeclaredConstructors();
        Due.is("constructors", 1, all.length);
        Due.yes("public", Modifier.isPublic(all[0].getModifiers()));
        Due.yes("of a room", Arrays.equals(all[0].getParameterTypes(), new Class<?>[] {int.class}));
        Due.is("the class is public and final", Modifier.PUBLIC | Modifier.FINAL, SweepRows.class.getModifiers());
    }

    private static void fields() {
        for (Field field : SweepRows.class.getDeclaredFields()) {
            boolean isNone = field.getName().equals("NONE");
            Due.yes("private but for NONE: " + field, isNone || Modifier.isPrivate(field.getModifiers()));
            Due.yes("static ones are final: " + field,
                !Modifier.isStatic(field.getModifiers()) || Modifier.isFinal(field.getModifiers()));
        }
    }

    private static void insideClasses() {
        Class<?>[] inside = SweepRows.class.getDeclaredClasses();
        Due.yes("at most some twelve classes", inside.length <= 11);
        for (Class<?> each : inside) {
            int modifiers = each.getModifiers();
            Due.yes("static: " + each, Modifier.isStatic(modifiers));
            Due.no("neither public nor protected: " + each,
                Modifier.isPublic(modifiers) || Modifier.isProtected(modifiers));
            sizes(each);
        }
    }

    private static void sizes(Class<?> each) {
        long own = Arrays.stream(each.getDeclaredFields())
            .filter(field -> !Modifier.isStatic(field.getModifiers())).count();
        Due.yes("some twenty fields beside its constants: " + each, own <= 20);
        for (Method method : each.getDeclaredMethods()) {
            Due.yes("at most seven parameters: " + method, method.getParameterCount() <= 7);
        }
    }

    private static String code() throws IOException {
        return Files.readString(SOURCE).replaceAll("(?s)/\\*.*?\\*/", "").replaceAll("//[^\n]*", "");
    }

    private static void library() throws IOException {
        Matcher calls = Pattern.compile("\\b[A-Z]\\w*\\.\\w+").matcher(code().replaceAll("import [^;]*;", ""));
        while (calls.find()) {
            Due.yes("of the library: " + calls.group(), LIBRARY.contains(calls.group()));
        }
    }

    private static void words() throws IOException {
        String code = code();
        Matcher matcher = NOT_ALLOWED.matcher(code);
        while (matcher.find()) {
            Due.no("not in the language: " + matcher.group(), true);
        }
        Matcher imports = Pattern.compile("import ([^;]*);").matcher(code);
        while (imports.find()) {
            Due.yes("import of " + imports.group(1), Set.of("java.util.Arrays").contains(imports.group(1)));
        }
    }
}
