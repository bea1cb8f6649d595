import java.io.ByteArrayOutputStream;
import java.io.IOException;
import java.io.PrintStream;
import java.lang.reflect.Method;
import java.lang.reflect.Modifier;
import java.nio.charset.StandardCharsets;
import java.nio.file.Files;
import java.nio.file.Path;
import java.util.ArrayList;
import java.util.List;
import java.util.regex.Matcher;
import java.util.regex.Pattern;
import java.util.stream.Stream;

/** README.md: its example runs and answers as it says, it names each call and each test, and what it names is there. */
public final class ReadmeTest {
    private static final Checks checks = new Checks();

    public static void main(String[] args) throws IOException {
        String readme = Files.readString(Path.of("README.md"));
        List<String> example = exampleOf(readme);
        isOfExample(example);
        answersAsItSays(example);
        namesEachCall(readme);
        namesEachTest(readme);
        namesWhatIsThere(readme);
        checks.finish();
    }

    private static List<String> exampleOf(String readme) {
        Matcher block = Pattern.compile("(?s)```java\n(.*?)```").matcher(readme);
        checks.due("README has an example", block.find(), true);
        return lines(block.group(1));
    }

    private static List<String> lines(String code) {
        return code.lines().map(String::strip).filter(line -> !line.isEmpty()).toList();
    }

    private static void isOfExample(List<String> example) throws IOException {
        List<String> code = lines(Files.readString(Path.of("src/test/java/Example.java")));
        int begin = code.indexOf("public static void main(String[] args) {");
        checks.due("README shows the example from its main method to its end",
            code.subList(begin, code.size() - 1).equals(example), true);
    }

    private static void answersAsItSays(List<String> example) {
        List<String> due = new ArrayList<>();
        for (String line : example) {
            Matcher said = Pattern.compile("System\\.out\\.println.* // (-?\\d+)\\b.*").matcher(line);
            if (said.matches()) {
                due.add(said.group(1));
            }
        }
        PrintStream screen = System.out;
        ByteArrayOutputStream printed = new ByteArrayOutputStream();
        System.setOut(new PrintStream(printed, true, StandardCharsets.UTF_8));
        Example.main(new String[0]);
        System.setOut(screen);
        List<String> got = printed.toString(StandardCharsets.UTF_8).lines().toList();
        checks.due("the example's answers " + got + ", README says " + due, got.equals(due), true);
        checks.due("the example has answers", due.size() > 5, true);
    }

    private static void namesEachCall(String readme) {
        for (Method m : ClapBank.class.getDeclaredMethods()) {
            if (Modifier.isPublic(m.getModifiers())) {
                checks.due("README names " + m.getName(), readme.contains("| `" + m.getName() + "("), true);
            }
        }
    }

    private static void namesEachTest(String readme) throws IOException {
        try (Stream<Path> files = Files.list(Path.of("src/test/java"))) {
            for (Path file : files.toList()) {
                String name = file.getFileName().toString().replace(".java", "");
                checks.due("README names " + name, readme.contains("`" + name + "`"), true);
            }
        }
    }

    /** Of the paths within the project that README names each is there. */
    private static void namesWhatIsThere(String readme) {
        Matcher path = Pattern.compile("`((?:\\.ci|src)/[\\w/.]*\\w)`").matcher(readme);
        int found = 0;
        while (path.find()) {
            found++;
            checks.due("README's " + path.group(1), Files.exists(Path.of(path.group(1))), true);
        }
        checks.due("README names paths", found >= 2, true);
    }
}
