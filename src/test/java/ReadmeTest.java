import java.io.IOException;
import java.lang.reflect.Method;
import java.lang.reflect.Modifier;
import java.nio.file.Files;
import java.nio.file.Path;
import java.util.List;
import java.util.regex.Matcher;
import java.util.regex.Pattern;
import java.util.stream.Stream;

/** What README.md says of the class and of the tests holds. */
public final class ReadmeTest {
    private static final Path README = Path.of("README.md"), TESTS = Path.of("src/test/java"), RUN = Path.of(".ci/run");
    private static final String NEW_OBJECT = "PicturePapers x = new PicturePapers();";
    /** A call, and the answer that is told behind it, perhaps with what it says. */
    private static final Pattern ROW = Pattern.compile("x\\.(\\w+\\([^)]*\\)); *// (-?\\d+)(: .+)?");

    private final Check check = new Check();
    private PicturePapers x;

    public static void main(String[] args) throws IOException {
        ReadmeTest test = new ReadmeTest();
        String readme = Files.readString(README);
        test.blocks(readme.lines().toList());
        test.names(readme);
        test.answers(readme);
        test.check.finish();
    }

    private void blocks(List<String> lines) {
        boolean isInside = false;
        for (String line : lines) {
            if (line.startsWith("```")) {
                isInside = line.equals("```java");
            } else if (isInside) {
                check.about("README.md, " + line);
                row(line);
            }
        }
    }

    private void row(String line) {
        if (line.equals(NEW_OBJECT)) {
            x = new PicturePapers();
            return;
        }
        Matcher row = ROW.matcher(line);
        if (x == null || !row.matches()) {
            check.holds(false, "a call with its answer");
            return;
        }
        check.due(Call.one(row.group(1)).on(x), Long.parseLong(row.group(2)), row.group(1));
    }

    private void names(String readme) throws IOException {
        check.about("README.md");
        for (Method method : PicturePapers.class.getDeclaredMethods()) {
            boolean isTold = readme.contains("`" + method.getName() + "`") && readme.contains("x." + method.getName() + "(");
            check.holds(!Modifier.isPublic(method.getModifiers()) || isTold, "it shows how to use " + method.getName());
        }
        try (Stream<Path> files = Files.list(TESTS)) {
            files.map(file -> file.getFileName().toString()).filter(name -> name.endsWith("Test.java")).forEach(name ->
                    check.holds(readme.contains("- `" + name.replace(".java", "") + "`: "), "it names " + name));
        }
        Matcher named = Pattern.compile("- `(\\w+Test)`: ").matcher(readme);
        while (named.find()) {
            check.holds(Files.exists(TESTS.resolve(named.group(1) + ".java")), "there is " + named.group(1));
        }
        check.holds(readme.contains("\n    .ci/run\n") && Files.isExecutable(RUN), "the tests are run by .ci/run");
    }

    private void answers(String readme) {
        check.about("README.md");
        String[] rows = {"| `UNKNOWN` " + PicturePapers.UNKNOWN + " |", "| `OUTSIDE` " + PicturePapers.OUTSIDE + " |",
            "| `STATE` " + PicturePapers.STATE + " |", "| `FULL` " + PicturePapers.FULL + " |",
            "| `NONE` " + PicturePapers.NONE + " |", "| `LOST` |"};
        for (String row : rows) {
            check.holds(readme.contains(row), "it has the row " + row);
        }
    }
}
