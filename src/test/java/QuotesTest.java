import java.io.IOException;
import java.nio.file.Files;
import java.nio.file.Path;
import java.util.ArrayList;
import java.util.Arrays;
import java.util.List;
import java.util.regex.Matcher;
import java.util.regex.Pattern;

/**
 * Each test of a sentence names its promise and the sentence, and the document has that sentence there: in the
 * promise itself or, where the comment says 'of', in the terms. And no word of the promises, of the terms, or of what
 * the class is, is left that no test quotes. (FaceTest has the public face; what is not promised has no test.)
 * Runs in the project's folder.
 */
public final class QuotesTest {
    private static final Pattern TEST = Pattern.compile("(?s)(/\\*\\*(?:(?!\\*/).)*\\*/\\s*)?private static void (\\w+)\\(\\)");
    private static final Pattern NAMED = Pattern.compile("/\\*\\* Promise (\\d+)(, of (Terms [1-5]|What it is))?: \".*");
    private static final Pattern QUOTE = Pattern.compile("\"([^\"]+)\"");
    private static final Pattern WORDS = Pattern.compile("[A-Za-z0-9][^\0]*");
    private static final int PROMISES = 20;

    private final String[] promises = new String[PROMISES + 1];
    private final String terms;
    private final List<List<String>> quotes = new ArrayList<>();

    private QuotesTest(String doc) {
        terms = (part(doc, "## What it is") + part(doc, "## Terms")).replaceAll("======== \\d( FLASH:| IMAGES\\.| WHAT RUNS\\.)?", " ")
            .replaceAll("\\s+", " ");
        for (int promise = 0; promise <= PROMISES; promise++) {
            promises[promise] = part(doc, "## Promise " + promise + ":").replaceFirst("^[^`]*`[^`]*`:", "");
            quotes.add(new ArrayList<>());
        }
    }

    public static void main(String[] args) throws IOException {
        QuotesTest test = new QuotesTest(oneLine(Files.readString(Path.of("../shared/DOC.md")).replaceAll("(?m)^```.*$", " ")));
        for (int promise = 1; promise <= PROMISES; promise++) {
            test.look(Files.readString(Path.of(String.format("src/test/java/Promise%02dEdgesTest.java", promise))), promise);
        }
        test.look(Files.readString(Path.of("src/test/java/SentencesTest.java")), 0);
        test.lookForWhatIsNotQuoted();
        Due.end();
    }

    private static String oneLine(String text) {
        return text.replaceAll("\\s+", " ");
    }

    private static String part(String doc, String title) {
        int from = doc.indexOf(title);
        int to = doc.indexOf(" ## ", from + 1);
        return from < 0 ? "" : doc.substring(from + title.length(), to < 0 ? doc.length() : to);
    }

    /** The tests of one file; with 0 they may be of any promise. */
    private void look(String source, int promise) {
        Matcher test = TEST.matcher(source);
        int found = 0;
        while (test.find()) {
            found++;
            String name = "promise " + promise + ", " + test.group(2);
            String comment = test.group(1) == null ? "" : oneLine(test.group(1).replaceAll("\\n\\s*\\*(?!/)", " "));
            Matcher named = NAMED.matcher(comment);
            int of = named.matches() ? Integer.parseInt(named.group(1)) : 0;
            boolean fits = of >= 1 && of <= PROMISES && (promise == 0 || promise == of);
            Due.is(name + " names its promise and a sentence", fits ? 1 : 0, 1);
            Due.is(name + " is called", source.contains("        " + test.group(2) + "();") ? 1 : 0, 1);
            if (fits) {
                lookAtQuotes(name, comment, of, named.group(2) != null);
            }
        }
        Due.is("promise " + promise + " has tests", found > 0 ? 1 : 0, 1);
    }

    private void lookAtQuotes(String name, String comment, int promise, boolean ofTheTerms) {
        Matcher quote = QUOTE.matcher(comment);
        while (quote.find()) {
            String told = quote.group(1);
            boolean own = promises[promise].contains(told);
            boolean general = ofTheTerms && terms.contains(told);
            Due.is(name + ": the document has '" + told + "'", own || general ? 1 : 0, 1);
            quotes.get(own ? promise : 0).add(told);
            if (own && general) {
                quotes.get(0).add(told);
            }
        }
    }

    private void lookForWhatIsNotQuoted() {
        for (int promise = 0; promise <= PROMISES; promise++) {
            String name = promise == 0 ? "the terms" : "promise " + promise;
            String text = promise == 0 ? terms : promises[promise];
            Due.is(name + " has words", text.isBlank() ? 0 : 1, 1);
            Matcher left = WORDS.matcher(withoutQuotes(text, quotes.get(promise)));
            while (left.find()) {
                Due.is("no test quotes, of " + name, left.group(), "");
            }
        }
    }

    private static String withoutQuotes(String text, List<String> told) {
        char[] left = text.toCharArray();
        for (String quote : told) {
            for (int at = text.indexOf(quote); at >= 0; at = text.indexOf(quote, at + 1)) {
                Arrays.fill(left, at, at + quote.length(), '\0');
            }
        }
        return new String(left);
    }
}
