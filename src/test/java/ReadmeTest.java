import java.io.IOException;
import java.lang.reflect.Method;
import java.lang.reflect.Modifier;
import java.nio.file.Files;
import java.nio.file.Path;
import java.util.ArrayList;
import java.util.LinkedHashMap;
import java.util.List;
import java.util.Map;
import java.util.Set;
import java.util.TreeSet;
import java.util.regex.Matcher;
import java.util.regex.Pattern;
import java.util.stream.Stream;

/** What README.md says of the use of the class and of its tests is so. */
final class ReadmeTest {
    private static final Answers DUE = new Answers();
    private static final Path README = Path.of("README.md");
    private static final Path TESTS = Path.of("src/test/java");
    private static final String BEGIN = "// README's example begins";
    private static final String END = "// README's example ends";

    public static void main(String[] args) throws IOException {
        theExampleIsTheOneBelow();
        theExampleAnswersWhatItSays();
        eachCallIsTold();
        eachTestIsTold();
        theTestsRunAsItSays();
        DUE.end();
    }

    private static Map<String, String> example() {
        // README's example begins
        GridFills fills = new GridFills(2, 2);

        // Letters are collected one by one and become a word with a score.
        fills.unit('a'); fills.unit('b');
        int ab = fills.word(9);                     // 0, its number
        fills.unit('a'); fills.unit('c');
        int ac = fills.word(1);                     // 1
        fills.unit('b'); fills.unit('d');
        int bd = fills.word(1);                     // 2
        fills.unit('c'); fills.unit('d');
        int cd = fills.word(1);                     // 3

        // Slots 0 and 1 go to the right, 2 and 3 down.
        int slots = fills.slots();                  // 4
        boolean isTheme = fills.theme(0, ab);       // true: slot 0 must have this word
        boolean isGiven = fills.given(1, 1, 'd');   // true: and this cell this letter

        int end = fills.best(20000);                // 0: found; 1: there is none; 2: too few steps
        int score = fills.score();                  // 12
        int letter = fills.letter(0, 1);            // 'c'
        int word = fills.slot(2, 5);                // 1, as slot 2 has ac
        int fillings = fills.many();                // 1, as the other one has ac in slot 0

        // What was found stays, and can be checked, when what is wanted changes.
        int sound = fills.check();                  // 0
        fills.given(0, 1, 'x');
        int fault = fills.check();                  // 2: 1 and the number of the first slot that is wrong

        // A black cell parts the slots anew; given letters, themes and what was found are gone.
        boolean isBlack = fills.black(0, 0, true);  // true
        int slotsNow = fills.slots();               // 2
        int nothing = fills.score();                // -1
        // README's example ends
        Map<String, String> answers = new LinkedHashMap<>();
        answers.put("ab", "" + ab);
        answers.put("ac", "" + ac);
        answers.put("bd", "" + bd);
        answers.put("cd", "" + cd);
        answers.put("slots", "" + slots);
        answers.put("isTheme", "" + isTheme);
        answers.put("isGiven", "" + isGiven);
        answers.put("end", "" + end);
        answers.put("score", "" + score);
        answers.put("letter", "'" + (char) letter + "'");
        answers.put("word", "" + word);
        answers.put("fillings", "" + fillings);
        answers.put("sound", "" + sound);
        answers.put("fault", "" + fault);
        answers.put("isBlack", "" + isBlack);
        answers.put("slotsNow", "" + slotsNow);
        answers.put("nothing", "" + nothing);
        return answers;
    }

    /** The lines between two, without the blanks before them. */
    private static List<String> linesBetween(Path file, String begin, String end) throws IOException {
        List<String> lines = new ArrayList<>();
        boolean isBetween = false;
        for (String line : Files.readAllLines(file)) {
            String text = line.strip();
            if (isBetween && text.equals(end)) {
                return lines;
            }
            if (isBetween) {
                lines.add(text);
            }
            isBetween |= text.equals(begin);
        }
        return new ArrayList<>();
    }

    private static void theExampleIsTheOneBelow() throws IOException {
        DUE.sentence("How to use it (the example compiles)");
        List<String> told = linesBetween(README, "```java", "```");
        DUE.due("there is an example", told.isEmpty(), false);
        DUE.due("its lines", String.join("\n", told),
                String.join("\n", linesBetween(TESTS.resolve("ReadmeTest.java"), BEGIN, END)));
    }

    private static void theExampleAnswersWhatItSays() throws IOException {
        DUE.sentence("How to use it (the example's answers)");
        Pattern answer = Pattern.compile("(?:int|boolean) (\\w+) = .*; *// ('.'|-?\\w+).*");
        Map<String, String> told = new LinkedHashMap<>();
        for (String line : linesBetween(README, "```java", "```")) {
            Matcher found = answer.matcher(line);
            if (found.matches()) {
                told.put(found.group(1), found.group(2));
            }
        }
        DUE.due("answers", example().toString(), told.toString());
    }

    private static void eachCallIsTold() throws IOException {
        DUE.sentence("All the calls");
        Set<String> face = new TreeSet<>();
        for (Method method : GridFills.class.getDeclaredMethods()) {
            if (Modifier.isPublic(method.getModifiers())) {
                face.add(method.getName() + " of " + method.getParameterCount());
            }
        }
        Pattern row = Pattern.compile("\\| `(\\w+)\\((.*?)\\)` \\|.*");
        Set<String> told = new TreeSet<>();
        for (String line : Files.readAllLines(README)) {
            Matcher found = row.matcher(line);
            if (found.matches()) {
                String takes = found.group(2);
                told.add(found.group(1) + " of " + (takes.isEmpty() ? 0 : takes.split(",").length));
            }
        }
        DUE.due("calls", told.toString(), face.toString());
    }

    private static void eachTestIsTold() throws IOException {
        DUE.sentence("How to run its tests (the table)");
        Set<String> told = new TreeSet<>();
        for (int promise = 1; promise <= 17; promise++) {
            told.add(String.format("Promise%02dTest", promise));
        }
        Pattern name = Pattern.compile("\\| `(\\w+Test)`.*\\|.*");
        for (String line : Files.readAllLines(README)) {
            Matcher found = name.matcher(line);
            if (found.matches()) {
                told.add(found.group(1));
            }
        }
        Set<String> there = new TreeSet<>();
        try (Stream<Path> files = Files.list(TESTS)) {
            files.map(file -> file.getFileName().toString()).filter(file -> file.endsWith("Test.java"))
                    .forEach(file -> there.add(file.substring(0, file.length() - ".java".length())));
        }
        DUE.due("tests", told.toString(), there.toString());
    }

    private static void theTestsRunAsItSays() throws IOException {
        DUE.sentence("How to run its tests (the command)");
        List<String> command = linesBetween(README, "```sh", "```");
        DUE.due("command", String.join("\n", command), ".ci/run");
        DUE.due("it is there", Files.isRegularFile(Path.of(".ci/run")), true);
    }
}
