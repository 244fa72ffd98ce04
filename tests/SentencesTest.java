import java.io.IOException;
import java.nio.file.Files;
import java.nio.file.Path;
import java.util.LinkedHashSet;
import java.util.Set;
import java.util.regex.Matcher;
import java.util.regex.Pattern;

/**
 * Each sentence of the document has a test of the edges that names it, and each that is named is the document's: a
 * sentence that is new or has changed is seen here.
 */
public final class SentencesTest {
    private static final Checks checks = new Checks();
    /** Headings, and what no answer of one house shows. */
    private static final Set<String> WITHOUT_TEST = Set.of("Terms: Windows.", "Terms: Rows.", "Terms: Exceptions.",
            "Terms: The class is not thread-safe.");

    public static void main(String[] args) throws IOException {
        TermsEdgesTest.main(args);
        RowsEdgesTest.main(args);
        MakingEdgesTest.main(args);
        PlacesEdgesTest.main(args);
        ValuesEdgesTest.main(args);
        SignsEdgesTest.main(args);
        SumsEdgesTest.main(args);
        Set<String> ofTheDocument = sentences(Files.readString(Path.of("../shared/DOC.md")));
        ofTheDocument.removeAll(WITHOUT_TEST);
        Set<String> named = Checks.namedSentences();
        for (String sentence : ofTheDocument) {
            checks.due("a test that names \"" + sentence + "\"", named.contains(sentence), true);
        }
        for (String sentence : named) {
            checks.due("the document says \"" + sentence + "\"", ofTheDocument.contains(sentence), true);
        }
        checks.finish();
    }

    private static Set<String> sentences(String document) {
        Set<String> sentences = new LinkedHashSet<>();
        String[] sections = document.split("(?m)^## ");
        for (String section : sections) {
            String title = section.lines().findFirst().orElse("");
            String body = section.substring(title.length()).strip();
            Matcher promise = Pattern.compile("Promise (\\d+): .*").matcher(title);
            if (promise.matches()) {
                addPromise(sentences, promise.group(1), body);
            } else if (title.equals("Terms")) {
                addTexts(sentences, title, body);
            } else if (title.equals("What it is")) {
                // Its first paragraph says what the class is for.
                addTexts(sentences, title, body.substring(body.indexOf("\n\n")).strip());
            }
        }
        return sentences;
    }

    private static void addTexts(Set<String> sentences, String title, String body) {
        for (String sentence : body.replaceAll("\\s+", " ").split("(?<=\\.) ")) {
            sentences.add(title + ": " + sentence);
        }
    }

    /** The first paragraph, behind the head of the method, then a line for each parameter, answer and exception. */
    private static void addPromise(Set<String> sentences, String number, String body) {
        String plain = body.replaceAll("\n(?=[a-z])", " ");
        String[] lines = plain.lines().filter(line -> !line.isBlank()).toArray(String[]::new);
        sentences.add(number + ": " + lines[0].replaceAll("^`[^`]*`: ", ""));
        for (int i = 1; i < lines.length; i++) {
            sentences.add(number + ": " + lines[i].replaceAll("^- ", "").replace("`", ""));
        }
    }
}
