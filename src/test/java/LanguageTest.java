import java.io.IOException;
import java.lang.reflect.Constructor;
import java.lang.reflect.Executable;
import java.lang.reflect.Field;
import java.lang.reflect.Method;
import java.lang.reflect.Modifier;
import java.nio.file.Files;
import java.nio.file.Path;
import java.util.ArrayList;
import java.util.List;
import java.util.Set;
import java.util.TreeSet;
import java.util.regex.Matcher;
import java.util.regex.Pattern;
import java.util.stream.Stream;

/** Rules of ../shared/LANGUAGE.md that can be told from the program's text, or from its classes. */
final class LanguageTest {
    private static final Answers DUE = new Answers();
    private static final Path MAIN = Path.of("src/main/java");
    private static final String LIBRARY = "Arrays.fill, Long.bitCount, Math.max, Math.min, System.arraycopy";

    public static void main(String[] args) throws IOException {
        String text = textWithoutComments();
        oneFile(text);
        theFace();
        noOtherForms(text);
        theLibrary(text);
        staticFields(text);
        noExceptions(text);
        shortMethods(text);
        fewParametersAndFields();
        noObjectsInCalls(text);
        DUE.end();
    }

    private static String textWithoutComments() throws IOException {
        String text = Files.readString(MAIN.resolve("GridFills.java"));
        return text.replaceAll("(?s)/\\*.*?\\*/", "").replaceAll("//[^\n]*", "");
    }

    private static List<Class<?>> classes() {
        List<Class<?>> all = new ArrayList<>();
        all.add(GridFills.class);
        for (Class<?> inside : GridFills.class.getDeclaredClasses()) {
            all.add(inside);
        }
        return all;
    }

    /** All that matches, each once. */
    private static String found(String text, String pattern) {
        Set<String> seen = new TreeSet<>();
        Matcher matcher = Pattern.compile(pattern).matcher(text);
        while (matcher.find()) {
            seen.add(matcher.group());
        }
        String list = seen.toString();
        return list.substring(1, list.length() - 1);
    }

    private static void oneFile(String text) throws IOException {
        DUE.sentence("The program is one file .. without a package line");
        try (Stream<Path> files = Files.walk(MAIN)) {
            DUE.due("files", files.filter(Files::isRegularFile).count(), 1);
        }
        DUE.due("package lines", found(text, "(?m)^\\s*package\\b"), "");
        DUE.due("imports", found(text, "import [^;]*"), "import java.util.Arrays");
    }

    private static void theFace() {
        DUE.sentence("1. .. the classes inside it, which are private or package-visible and static. "
                + "No private method bears the name of a public one.");
        Set<String> names = new TreeSet<>();
        for (Method method : GridFills.class.getMethods()) {
            names.add(method.getName());
        }
        for (Class<?> one : classes()) {
            int is = one.getModifiers();
            boolean isHidden = !Modifier.isPublic(is) && !Modifier.isProtected(is);
            DUE.due(one + " is the program's, or static and hidden in it",
                    one == GridFills.class || (Modifier.isStatic(is) && isHidden), true);
            for (Method method : one.getDeclaredMethods()) {
                DUE.due(method + " bears a public one's name",
                        !Modifier.isPublic(method.getModifiers()) && names.contains(method.getName()), false);
            }
        }
    }

    private static void noOtherForms(String text) {
        DUE.sentence("2. no lambda, no method reference; 6. No finally .. No synchronized, assert");
        DUE.due("forms", found(text, "->|::|\\b(finally|synchronized|assert)\\b"), "");
    }

    private static void theLibrary(String text) {
        DUE.sentence("4. The library: only what stands here.");
        String body = text.replaceAll("import [^;]*;", "");
        DUE.due("calls", found(body, "\\b(Arrays|Math|System|Long|Integer|Boolean|Character|String|List|Objects)\\.\\w+"),
                LIBRARY);
    }

    private static void staticFields(String text) {
        DUE.sentence("5. Static fields are final: constants of int .. no static initialiser block.");
        DUE.due("blocks", found(text, "static\\s*\\{"), "");
        for (Class<?> one : classes()) {
            for (Field field : one.getDeclaredFields()) {
                int is = field.getModifiers();
                DUE.due(field + " is free, or a constant",
                        !Modifier.isStatic(is) || (Modifier.isFinal(is) && field.getType() == int.class), true);
            }
        }
    }

    private static void noExceptions(String text) {
        DUE.sentence("6. A call of the face throws exactly what and where the document says (nowhere)");
        DUE.due("exceptions", found(text, "\\b(throw|throws|try|catch|\\w*Exception|\\w*Error|Throwable)\\b"), "");
    }

    private static void shortMethods(String text) {
        DUE.sentence("11. Methods stay short (some sixty lines)");
        Matcher method = Pattern.compile("(?m)^( {4}| {8})\\w[^;={}]*\\)\\s*\\{\n(.*\n)*?\\1\\}").matcher(text);
        int methods = 0;
        while (method.find()) {
            methods++;
            DUE.due(method.group().lines().findFirst().orElse("") + " is short",
                    method.group().lines().count() <= 60, true);
        }
        int made = 0;
        for (Class<?> one : classes()) {
            made += written(one.getDeclaredMethods()) + written(one.getDeclaredConstructors());
        }
        // A class without a written constructor has one all the same.
        DUE.due("each method is looked at", methods >= made - classes().size() && methods <= made, true);
    }

    private static int written(Executable[] all) {
        int count = 0;
        for (Executable one : all) {
            count += one.isSynthetic() ? 0 : 1;
        }
        return count;
    }

    private static void fewParametersAndFields() {
        DUE.sentence("11. A method takes at most seven parameters .. some twelve classes .. some twenty fields");
        DUE.due("classes", classes().size() <= 12, true);
        for (Class<?> one : classes()) {
            int fields = 0;
            for (Field field : one.getDeclaredFields()) {
                fields += Modifier.isStatic(field.getModifiers()) ? 0 : 1;
            }
            DUE.due(one + " has few fields", fields <= 20, true);
            for (Method method : one.getDeclaredMethods()) {
                DUE.due(method + " takes few", method.getParameterCount() <= 7, true);
            }
            for (Constructor<?> made : one.getDeclaredConstructors()) {
                DUE.due(made + " takes few", made.getParameterCount() <= 7, true);
            }
        }
    }

    /** So that calls, however many, take no room: only constructors and fields' initialisers make. */
    private static void noObjectsInCalls(String text) {
        DUE.sentence("12. What a run makes is counted");
        String withoutFields = text.replaceAll("(?m)^ *(private )?final \\w+\\[\\] \\w+ = new \\w+\\[[^;]*;", "");
        Matcher constructor = Pattern.compile("public GridFills\\([^{]*\\{[^}]*\\}").matcher(withoutFields);
        DUE.due("there is a constructor", constructor.find(), true);
        String calls = withoutFields.replace(constructor.group(), "");
        DUE.due("objects made", found(calls, "\\bnew \\w+|\\.clone\\(|\\.copyOf\\w*\\("), "");
    }
}
