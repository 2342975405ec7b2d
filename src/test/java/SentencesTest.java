import java.io.IOException;
import java.nio.file.DirectoryStream;
import java.nio.file.Files;
import java.nio.file.Path;
import java.util.Set;
import java.util.TreeSet;
import java.util.regex.Matcher;
import java.util.regex.Pattern;

/** Each part of the Terms and each promise has sentences whose boundary cases are tried (Check.sentence). */
public final class SentencesTest {
    public static void main(String[] args) throws IOException {
        Set<String> tried = new TreeSet<>();
        try (DirectoryStream<Path> files = Files.newDirectoryStream(Path.of("src/test/java"), "*Test.java")) {
            for (Path file : files) {
                Matcher sentence = Pattern.compile("(?:sentence|call)\\(\"([^\"]*)\"").matcher(Files.readString(file));
                while (sentence.find()) {
                    Matcher part = Pattern.compile("\\b[TP]\\d+\\b").matcher(sentence.group(1));
                    while (part.find()) tried.add(part.group());
                }
            }
        }
        Check check = new Check();
        for (int term = 1; term <= 5; term++) check.due("Terms " + term, tried.contains("T" + term) ? 1 : 0, 1);
        for (int promise = 1; promise <= 39; promise++) check.due("Promise " + promise, tried.contains("P" + promise) ? 1 : 0, 1);
        check.close();
    }
}
