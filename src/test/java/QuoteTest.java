import java.io.IOException;
import java.nio.file.DirectoryStream;
import java.nio.file.Files;
import java.nio.file.Path;
import java.util.ArrayList;
import java.util.Arrays;
import java.util.List;
import java.util.regex.Matcher;
import java.util.regex.Pattern;

/**
 * Each edge that the document names is among the words that an Edge test quotes (Due.sentence), promise by promise; and
 * all words of its Terms and promises are among those that an Edge test or DocumentTest quotes.
 */
public final class QuoteTest {
    private static final int PROMISES = 64;

    /** Answers that refuse or find nothing, bounds, ties, and what must stay as it was. */
    private static final Pattern EDGE = Pattern.compile("NONE|-\\d|\\d \\.\\. \\d|several|if any|if above|if fewer|stays|happens"
        + "|none come|more than|below 0|above 60|least row|told ahead|none told|, too|of one place|at its word");
    private static final Pattern QUOTE = Pattern.compile("Due\\.sentence\\((\\d+),\\s*((?:\"[^\"]*\"[\\s+]*)+)\\);");

    /** What of a text is no sentence: a promise's name and head (FaceTest's), a term's number, the fences of the block. */
    private static final Pattern NO_SENTENCE = Pattern.compile("(?m)\\A[^\n]*|^`[^`]*`: |^[IVX]+\\. |^```\\w*");

    public static void main(String[] args) throws IOException {
        List<List<String>> quotes = new ArrayList<>();
        for (int promise = 0; promise <= PROMISES; promise++) {
            quotes.add(new ArrayList<>());
        }
        collectOf("Edge*Test.java", quotes);
        for (int promise = 0; promise <= PROMISES; promise++) {
            Due.due("promise " + promise + " is quoted", quotes.get(promise).isEmpty() ? 0 : 1, 1);
            Due.due("promise " + promise + " is in the document", Due.promiseText(promise).isEmpty() ? 0 : 1, 1);
            edgesQuoted(promise, quotes.get(promise));
        }
        collectOf("DocumentTest.java", quotes);
        for (int promise = 0; promise <= PROMISES; promise++) {
            allQuoted(promise, quotes.get(promise));
        }
        Due.due("no promise beyond the last", Due.promiseText(PROMISES + 1).isEmpty() ? 1 : 0, 1);
        Due.finish();
    }

    private static void collectOf(String names, List<List<String>> quotes) throws IOException {
        try (DirectoryStream<Path> files = Files.newDirectoryStream(Path.of("src/test/java"), names)) {
            for (Path file : files) {
                collect(Files.readString(file), quotes);
            }
        }
    }

    private static void collect(String source, List<List<String>> quotes) {
        Matcher quote = QUOTE.matcher(source);
        while (quote.find()) {
            String words = quote.group(2).trim().replaceAll("\"\\s*\\+\\s*\"", "");
            quotes.get(Integer.parseInt(quote.group(1))).add(words.substring(1, words.length() - 1));
        }
    }

    private static void edgesQuoted(int promise, List<String> quotes) {
        String text = Due.promiseText(promise);
        Matcher edge = EDGE.matcher(text);
        while (edge.find()) {
            boolean quoted = false;
            for (String words : quotes) {
                int at = text.indexOf(words);
                while (at >= 0 && !quoted) {
                    quoted = at <= edge.start() && edge.end() <= at + words.length();
                    at = text.indexOf(words, at + 1);
                }
            }
            String around = text.substring(Math.max(0, edge.start() - 30), Math.min(text.length(), edge.end() + 30));
            Due.due("promise " + promise + " has an edge that no Edge test quotes: " + around, quoted ? 1 : 0, 1);
        }
    }

    private static void allQuoted(int promise, List<String> quotes) {
        String text = Due.promiseText(promise);
        char[] left = text.toCharArray();
        Matcher aside = NO_SENTENCE.matcher(text);
        while (aside.find()) {
            Arrays.fill(left, aside.start(), aside.end(), ' ');
        }
        for (String words : quotes) {
            for (int at = text.indexOf(words); at >= 0; at = text.indexOf(words, at + 1)) {
                Arrays.fill(left, at, at + words.length(), ' ');
            }
        }
        String words = new String(left).replaceAll("[^A-Za-z0-9]+", " ").trim();
        Due.due("promise " + promise + " has words that no test quotes: " + words, words.isEmpty() ? 1 : 0, 1);
    }
}
