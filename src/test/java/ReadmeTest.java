import java.io.IOException;
import java.lang.reflect.Method;
import java.nio.file.DirectoryStream;
import java.nio.file.Files;
import java.nio.file.Path;
import java.util.TreeSet;
import java.util.regex.Matcher;
import java.util.regex.Pattern;

/** README.md: its example answers what it says, and the tests and their methods that it names are there. */
public final class ReadmeTest {
    private static final Pattern CALL_WITH_ANSWER = Pattern.compile("^table\\.(\\w+\\(.*?\\));\\s+// (-?\\d+)\\b");
    // A test, a method of a test, or only its method behind the test's name; dots for the rest of a name.
    private static final Pattern NAMED = Pattern.compile("`(\\w+Test)?(?:\\.(\\w+)(\\.\\.\\.)?)?`");

    private static final Checks CHECKS = new Checks();

    public static void main(String[] args) throws IOException, ClassNotFoundException {
        String readme = Files.readString(Path.of("README.md"));
        example(readme);
        CHECKS.same("the tests that README.md lists", listedTests(readme).toString(), testsThatAre().toString());
        namedMethods(readme);
        CHECKS.end("ReadmeTest");
    }

    private static void example(String readme) {
        int begin = readme.indexOf("```java\n");
        int end = readme.indexOf("```\n", begin + 1);
        CHECKS.equal("there is an example", begin >= 0 && end > begin ? 1 : 0, 1);
        String[] lines = readme.substring(begin, end).split("\n");
        CHECKS.same("the example's first line", lines[1], "SkatMill table = new SkatMill();");
        SkatMill x = new SkatMill();
        for (int i = 2; i < lines.length; i++) {
            Matcher found = CALL_WITH_ANSWER.matcher(lines[i]);
            boolean isCall = found.find();
            CHECKS.equal("a call with its answer: " + lines[i], isCall ? 1 : 0, 1);
            if (isCall) {
                CHECKS.same(lines[i], Checks.outcome(() -> Table.run(x, found.group(1).replace(" ", ""))),
                    found.group(2));
            }
        }
    }

    private static TreeSet<String> listedTests(String readme) {
        TreeSet<String> names = new TreeSet<>();
        Matcher found = Pattern.compile("(?m)^\\| `(\\w+Test)` \\|").matcher(readme);
        while (found.find()) {
            names.add(found.group(1));
        }
        return names;
    }

    private static TreeSet<String> testsThatAre() throws IOException {
        TreeSet<String> names = new TreeSet<>();
        try (DirectoryStream<Path> files = Files.newDirectoryStream(Path.of("src/test/java"), "*Test.java")) {
            for (Path file : files) {
                names.add(file.getFileName().toString().replace(".java", ""));
            }
        }
        return names;
    }

    private static void namedMethods(String readme) throws ClassNotFoundException {
        String test = "";
        Matcher found = NAMED.matcher(readme);
        while (found.find()) {
            test = found.group(1) != null ? found.group(1) : test;
            if (found.group(2) != null) {
                boolean isThere = hasMethod(test, found.group(2), found.group(3) != null);
                CHECKS.equal(found.group() + " is a method of " + test, isThere ? 1 : 0, 1);
            }
        }
    }

    private static boolean hasMethod(String test, String name, boolean isBeginning) throws ClassNotFoundException {
        for (Method method : Class.forName(test).getDeclaredMethods()) {
            if (isBeginning ? method.getName().startsWith(name) : method.getName().equals(name)) {
                return true;
            }
        }
        return false;
    }
}
