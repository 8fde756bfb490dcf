import java.io.IOException;
import java.nio.file.Files;
import java.nio.file.Path;
import java.util.regex.Matcher;
import java.util.regex.Pattern;

/**
 * Each test of a boundary case names its promise and the sentence, and the document has that sentence there: in the
 * promise itself or, where the comment says 'of', in the terms. Runs in the project's folder.
 */
public final class QuotesTest {
    private static final Pattern TEST = Pattern.compile("(?s)(/\\*\\*(?:(?!\\*/).)*\\*/\\s*)?private static void (\\w+)\\(\\)");
    private static final Pattern QUOTE = Pattern.compile("\"([^\"]+)\"");

    public static void main(String[] args) throws IOException {
        String doc = oneLine(Files.readString(Path.of("../shared/DOC.md")).replaceAll("(?m)^```.*$", " "));
        String terms = part(doc, "## What it is") + part(doc, "## Terms");
        for (int promise = 1; promise <= 20; promise++) {
            String file = String.format("src/test/java/Promise%02dEdgesTest.java", promise);
            look(promise, Files.readString(Path.of(file)), part(doc, "## Promise " + promise + ":"), terms);
        }
        Due.end();
    }

    private static String oneLine(String text) {
        return text.replaceAll("\\s+", " ");
    }

    private static String part(String doc, String title) {
        int from = doc.indexOf(title);
        int to = doc.indexOf(" ## ", from + 1);
        return from < 0 ? "" : doc.substring(from, to < 0 ? doc.length() : to);
    }

    private static void look(int promise, String source, String own, String terms) {
        Matcher test = TEST.matcher(source);
        int found = 0;
        while (test.find()) {
            found++;
            String name = "promise " + promise + ", " + test.group(2);
            String comment = test.group(1) == null ? "" : oneLine(test.group(1).replaceAll("\\n\\s*\\*(?!/)", " "));
            boolean named = comment.matches("/\\*\\* Promise " + promise + "(, of (Terms [1-5]|What it is))?: \".*");
            Due.is(name + " names its promise and a sentence", named ? 1 : 0, 1);
            Due.is(name + " is called", source.contains("        " + test.group(2) + "();") ? 1 : 0, 1);
            Matcher quote = QUOTE.matcher(comment);
            while (quote.find()) {
                boolean stands = own.contains(quote.group(1)) || comment.contains(" of ") && terms.contains(quote.group(1));
                Due.is(name + ": the document has '" + quote.group(1) + "'", stands ? 1 : 0, 1);
            }
        }
        Due.is("promise " + promise + " has tests", found > 0 ? 1 : 0, 1);
    }
}
