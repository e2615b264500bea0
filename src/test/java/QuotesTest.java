import java.io.IOException;
import java.nio.file.DirectoryStream;
import java.nio.file.Files;
import java.nio.file.Path;
import java.util.regex.Matcher;
import java.util.regex.Pattern;

/** What tests quote by due.sentence(..) are the document's own words. */
public final class QuotesTest {
    private static final Path DOCUMENT = Path.of("../shared/DOC.md");
    private static final Pattern QUOTE = Pattern.compile("due\\.sentence\\(\"([^\"]*)\"");
    private static final Due due = new Due("QuotesTest");

    public static void main(String[] args) throws IOException {
        String document = Files.readString(DOCUMENT);
        int quotes = 0;
        try (DirectoryStream<Path> tests = Files.newDirectoryStream(Path.of("src/test/java"), "*Test.java")) {
            for (Path test : tests) {
                Matcher quote = QUOTE.matcher(Files.readString(test));
                while (quote.find()) {
                    String words = quote.group(1);
                    due.is(test.getFileName() + " quotes \"" + words + "\"", document.contains(words) ? 1 : 0, 1);
                    quotes++;
                }
            }
        }
        due.is("there are quotes", Math.min(1, quotes), 1);
        due.end();
    }
}
