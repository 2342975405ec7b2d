import java.io.ByteArrayOutputStream;
import java.io.IOException;
import java.io.PrintStream;
import java.lang.reflect.Method;
import java.lang.reflect.Modifier;
import java.nio.file.DirectoryStream;
import java.nio.file.Files;
import java.nio.file.Path;
import java.util.ArrayList;
import java.util.List;
import java.util.regex.Matcher;
import java.util.regex.Pattern;

/** What README.md says of the class and of its tests holds. */
public final class ReadmeTest {
    private static final Check CHECK = new Check();

    public static void main(String[] args) throws IOException {
        String readme = Files.readString(Path.of("README.md"));
        String example = Files.readString(Path.of("src/test/java/Example.java"));
        CHECK.due("it shows the example as it is", readme.contains("```java\n" + example + "```") ? 1 : 0, 1);
        answers(example);
        CHECK.due("it says how the tests are run", readme.contains("    bash .ci/run\n") ? 1 : 0, 1);
        try (DirectoryStream<Path> files = Files.newDirectoryStream(Path.of("src/test/java"), "*Test.java")) {
            for (Path file : files) names(readme, file.getFileName().toString().replace(".java", ""));
        }
        for (Method m : TurnsOneWay.class.getDeclaredMethods()) {
            if (Modifier.isPublic(m.getModifiers())) calls(readme, m);
        }
        CHECK.close();
    }

    private static void names(String readme, String test) {
        CHECK.due("it names " + test, readme.contains("`" + test + "`") || readme.contains("`" + test + " [") ? 1 : 0, 1);
    }

    /** Each call of the face stands in a table, with as many arguments as it has. */
    private static void calls(String readme, Method m) {
        Matcher told = Pattern.compile("(?m)^\\| `" + m.getName() + "\\(([^)]*)\\)` \\|").matcher(readme);
        int arguments = -1;
        if (told.find()) arguments = told.group(1).isEmpty() ? 0 : told.group(1).split(",").length;
        CHECK.due("the arguments that it tells of " + m.getName(), arguments, m.getParameterCount());
    }

    /** What the example prints is what stands behind its lines. */
    private static void answers(String example) {
        List<String> due = new ArrayList<>();
        Matcher line = Pattern.compile("(?m)^ +say\\(.*\\); +// (-?\\d+)$").matcher(example);
        while (line.find()) due.add(line.group(1));
        PrintStream console = System.out;
        ByteArrayOutputStream printed = new ByteArrayOutputStream();
        System.setOut(new PrintStream(printed, true));
        Example.main(new String[0]);
        System.setOut(console);
        List<String> got = printed.toString().lines().toList();
        CHECK.due("lines that are printed", got.size(), due.size());
        for (int i = 0; i < Math.min(got.size(), due.size()); i++) {
            CHECK.due("line " + (i + 1), Long.parseLong(got.get(i)), Long.parseLong(due.get(i)));
        }
    }
}
