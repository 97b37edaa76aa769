import java.lang.reflect.Constructor;
import java.lang.reflect.Field;
import java.lang.reflect.Method;
import java.lang.reflect.Modifier;
import java.util.Arrays;
import java.util.Set;
import java.util.TreeSet;

/** The public face is the document's, and nothing else can be seen of the class. */
final class FaceTest {
    private static final String[] FACE = {
        "boolean black(int, int, boolean)", "boolean unit(int)", "int word(int)",
        "boolean given(int, int, int)", "boolean theme(int, int)", "int slots()",
        "int slot(int, int)", "int run(int)", "int best(int)", "int steps()", "int many()",
        "int score()", "int letter(int, int)", "int check()", "boolean alike(int)", "int parts()",
    };

    public static void main(String[] args) {
        Answers answers = new Answers();
        answers.due("public and final", GridFills.class.getModifiers(), Modifier.PUBLIC | Modifier.FINAL);
        answers.due("constructors", GridFills.class.getDeclaredConstructors().length, 1);
        for (Constructor<?> made : GridFills.class.getConstructors()) {
            answers.due("constructor", Arrays.toString(made.getParameterTypes()), "[int, int]");
        }
        answers.due("methods", visibleMethods().toString(), new TreeSet<>(Arrays.asList(FACE)).toString());
        for (Field field : GridFills.class.getDeclaredFields()) {
            answers.due(field.getName() + " is private", Modifier.isPrivate(field.getModifiers()), true);
        }
        answers.end();
    }

    private static Set<String> visibleMethods() {
        Set<String> seen = new TreeSet<>();
        for (Method method : GridFills.class.getDeclaredMethods()) {
            if (!Modifier.isPrivate(method.getModifiers()) && !method.isSynthetic()) {
                String takes = Arrays.toString(method.getParameterTypes());
                seen.add(method.getReturnType() + " " + method.getName()
                        + "(" + takes.substring(1, takes.length() - 1) + ")");
            }
        }
        return seen;
    }
}
