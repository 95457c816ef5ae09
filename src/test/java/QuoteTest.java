import java.io.IOException;
import java.nio.file.DirectoryStream;
import java.nio.file.Files;
import java.nio.file.Path;
import java.util.ArrayList;
import java.util.List;
import java.util.regex.Matcher;
import java.util.regex.Pattern;

/** Each edge that the document names is among the words that an Edge test quotes (Due.sentence), promise by promise. */
public final class QuoteTest {
    private static final int PROMISES = 64;

    /** Answers that refuse or find nothing, bounds, ties, and what must stay as it was. */
    private static final Pattern EDGE = Pattern.compile("NONE|-\\d|\\d \\.\\. \\d|several|if any|if above|if fewer|stays|happens"
        + "|none come|more than|below 0|above 60|least row|told ahead|none told|, too|of one place|at its word");
    private static final Pattern QUOTE = Pattern.compile("Due\\.sentence\\((\\d+),\\s*((?:\"[^\"]*\"[\\s+]*)+)\\);");

    public static void main(String[] args) throws IOException {
        List<List<String>> quotes = new ArrayList<>();
        for (int promise = 0; promise <= PROMISES; promise++) {
            quotes.add(new ArrayList<>());
        }
        try (DirectoryStream<Path> files = Files.newDirectoryStream(Path.of("src/test/java"), "Edge*Test.java")) {
            for (Path file : files) {
                collect(Files.readString(file), quotes);
            }
        }
        for (int promise = 0; promise <= PROMISES; promise++) {
            Due.due("promise " + promise + " is quoted", quotes.get(promise).isEmpty() ? 0 : 1, 1);
            Due.due("promise " + promise + " is in the document", Due.promiseText(promise).isEmpty() ? 0 : 1, 1);
            edgesQuoted(promise, quotes.get(promise));
        }
        Due.finish();
    }

    private static void collect(String source, List<List<String>> quotes) {
        Matcher quote = QUOTE.matcher(source);
        while (quote.find()) {
            String words = quote.group(2).trim().replaceAll("\"\\s*\\+\\s*\"", "");
            quotes.get(Integer.parseInt(quote.group(1))).add(words.substring(1, words.length() - 1));
        }
    }

    private static void edgesQuoted(int promise, List<String> quotes) {
        String text = Due.promiseText(promise);
        Matcher edge = EDGE.matcher(text);
        while (edge.find()) {
            boolean quoted = false;
            for (String words : quotes) {
                int at = text.indexOf(words);
                while (at >= 0 && !quoted) {
                    quoted = at <= edge.start() && edge.end() <= at + words.length();
                    at = text.indexOf(words, at + 1);
                }
            }
            String around = text.substring(Math.max(0, edge.start() - 30), Math.min(text.length(), edge.end() + 30));
            Due.due("promise " + promise + " has an edge that no Edge test quotes: " + around, quoted ? 1 : 0, 1);
        }
    }
}
