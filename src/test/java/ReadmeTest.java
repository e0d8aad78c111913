import java.io.ByteArrayOutputStream;
import java.io.IOException;
import java.io.PrintStream;
import java.lang.reflect.Method;
import java.lang.reflect.Modifier;
import java.nio.charset.StandardCharsets;
import java.nio.file.Files;
import java.nio.file.Path;
import java.util.ArrayList;
import java.util.List;
import java.util.TreeSet;
import java.util.regex.Matcher;
import java.util.regex.Pattern;
import java.util.stream.Stream;

/** README.md tells what there is: the example and what it prints, each call, each test, files that are there. */
public final class ReadmeTest {
    private static final Due DUE = new Due("ReadmeTest");
    private static final int PROMISES = 48;

    public static void main(String[] args) throws IOException {
        String readme = Files.readString(Path.of("README.md"));
        example(readme);
        calls(readme);
        refusals(readme);
        tests(readme);
        files(readme);
        firstText(readme);
        DUE.close();
    }

    private static void same(String what, Object got, Object want) {
        DUE.due(what + " is as it stands", got.equals(want) ? 1 : 0, 1);
        if (!got.equals(want)) {
            System.out.println("README.md has:\n" + got + "\nwhat stands is:\n" + want);
        }
    }

    private static List<String> found(String text, String pattern) {
        List<String> found = new ArrayList<>();
        Matcher matcher = Pattern.compile(pattern, Pattern.MULTILINE | Pattern.DOTALL).matcher(text);
        while (matcher.find()) {
            found.add(matcher.group(1));
        }
        return found;
    }

    private static List<String> blocks(String readme, String kind) {
        return found(readme, "^```" + kind + "\n(.*?)^```$");
    }

    private static void example(String readme) throws IOException {
        same("the example", blocks(readme, "java"), List.of(Files.readString(Path.of("src/test/java/Example.java"))));
        ByteArrayOutputStream printed = new ByteArrayOutputStream();
        PrintStream out = System.out;
        System.setOut(new PrintStream(printed, true, StandardCharsets.UTF_8));
        Example.main(new String[0]);
        System.setOut(out);
        String lines = printed.toString(StandardCharsets.UTF_8).replace("\r", "");
        same("what the example prints", blocks(readme, "text").get(0), lines);
    }

    /** Each promise's call, in their order, with the names of its numbers; all that the class has, and no other. */
    private static void calls(String readme) throws IOException {
        String doc = Files.readString(Path.of("../shared/DOC.md"));
        List<String> promised = found(doc, "^## Promise \\d+: [^\n]*\n\n`([^`]*)`");
        List<String> want = new ArrayList<>();
        for (String each : promised) {
            want.add("`" + each.replaceAll("\\b(int|long) ", "") + "` | " + (want.size() + 1));
        }
        List<String> rows = found(readme, "^\\| (`[a-zA-Z]+\\([^`]*\\)` \\| \\d+) \\| [^\n]+ \\|$");
        DUE.due("promises", rows.size(), PROMISES);
        same("the table of calls", rows, want);
        TreeSet<String> names = new TreeSet<>(List.of("LettersThatCross"));
        for (Method method : LettersThatCross.class.getDeclaredMethods()) {
            if (Modifier.isPublic(method.getModifiers())) {
                names.add(method.getName());
            }
        }
        same("the calls told", new TreeSet<>(found(readme, "^\\| `([a-zA-Z]+)\\([^`]*\\)` \\| \\d+ ")), names);
    }

    private static void refusals(String readme) {
        String want = "NONE " + LettersThatCross.NONE + ", BAD " + LettersThatCross.BAD + ", STATE " + LettersThatCross.STATE
            + ", FULL " + LettersThatCross.FULL;
        String got = String.join(", ", found(readme, "^\\| (`[A-Z]+` -\\d+) \\| ")).replace("`", "");
        same("the table of refusals", got, want);
    }

    private static void tests(String readme) throws IOException {
        TreeSet<String> stand = new TreeSet<>();
        try (Stream<Path> files = Files.list(Path.of("src/test/java"))) {
            files.map(file -> file.getFileName().toString()).filter(name -> name.endsWith("Test.java"))
                .forEach(name -> stand.add(name.replace(".java", "")));
        }
        List<String> told = found(readme, "^\\| `([A-Za-z]+Test)` \\| ");
        same("the tables of tests", new TreeSet<>(told), stand);
        DUE.due("rows of tests", told.size(), stand.size());
    }

    /** The project's files that the commands name; those under ../shared come from elsewhere. */
    private static void files(String readme) {
        String commands = String.join("", blocks(readme, "sh"));
        TreeSet<String> files = new TreeSet<>(found(commands, "^(\\.ci/[a-z]+)$"));
        files.addAll(found(commands, " (src/[/a-zA-Z]+\\.java)"));
        DUE.due("files of the project in commands", files.size(), 3);
        for (String file : files) {
            DUE.due(file + " is there", Files.exists(Path.of(file)) ? 1 : 0, 1);
        }
    }

    /** The first text, as README.md tells it, makes the same rings as the one that the object has. */
    private static void firstText(String readme) {
        LettersThatCross x = new LettersThatCross();
        x.way(3, 2, 0, 0);
        x.turn(2);
        String text = blocks(readme, "text").get(1);
        DUE.due("the first text, fed", Due.text(x, text), 1);
        for (int n = 0; n <= 150; n++) {
            int ring = x.ring(0, n, 0);
            x.force(1);
            DUE.due("ring of " + n + " days by the first text, fed", x.ring(0, n, 0), ring);
            x.force(0);
        }
    }
}
