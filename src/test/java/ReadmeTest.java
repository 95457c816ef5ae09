import java.io.IOException;
import java.lang.reflect.Method;
import java.lang.reflect.Modifier;
import java.nio.file.Files;
import java.nio.file.Path;
import java.util.HashMap;
import java.util.HashSet;
import java.util.Map;
import java.util.Set;
import java.util.regex.Matcher;
import java.util.regex.Pattern;

/** README.md names every method of the face in the document's words, and what it says of its own street is answered so. */
public final class ReadmeTest {
    private static final Pattern ROW = Pattern.compile("(?m)^\\| (`.*?) \\| (.*?) \\| ([-0-9 ]+) \\|$");
    private static final Pattern CALL = Pattern.compile("`(\\w+)\\(([^)]*)\\)`");
    private static final Pattern HEAD = Pattern.compile("\n`(?:int|long) (\\w+)\\(");
    private static final int PROMISES = 64;

    public static void main(String[] args) throws IOException, ReflectiveOperationException {
        String page = Files.readString(Path.of("README.md"));
        Map<String, Integer> promises = promisesByName();
        IcicleClock x = new IcicleClock();
        Set<String> named = new HashSet<>();
        Matcher row = ROW.matcher(page);
        while (row.find()) {
            String[] answers = row.group(3).trim().split(" +");
            Matcher call = CALL.matcher(row.group(1));
            int asked = 0;
            while (call.find()) {
                named.add(call.group(1));
                wordsAreTheDocuments(promises, call.group(1), row.group(2));
                if (call.group(1).equals("street")) {
                    Due.feedText(x, streetOf(page));
                }
                String want = asked < answers.length ? answers[asked] : "-99";
                Due.due("README: " + call.group(), ask(x, call.group(1), call.group(2)), Long.parseLong(want));
                asked++;
            }
            Due.due("README: how many answers of " + row.group(1), answers.length, asked);
        }
        for (String name : promises.keySet()) {
            Due.due("README names " + name, named.contains(name) ? 1 : 0, 1);
        }
        Due.due("how many methods", promises.size(), PROMISES - 1);
        Due.due("README says how to run the tests", page.contains("bash .ci/run") ? 1 : 0, 1);
        testsAreNamed(page);
        Due.finish();
    }

    private static Map<String, Integer> promisesByName() {
        Map<String, Integer> promises = new HashMap<>();
        for (int promise = 1; promise <= PROMISES; promise++) {
            Matcher head = HEAD.matcher(Due.promiseText(promise));
            if (head.find()) {
                promises.put(head.group(1), promise);
            }
        }
        return promises;
    }

    private static void wordsAreTheDocuments(Map<String, Integer> promises, String name, String words) {
        String text = Due.promiseText(promises.getOrDefault(name, -1));
        Due.due("README: the words of " + name, text.contains(": " + words) ? 1 : 0, 1);
    }

    private static String streetOf(String page) {
        int from = page.indexOf("```text\n") + "```text\n".length();
        return page.substring(from, page.indexOf("```", from));
    }

    private static long ask(IcicleClock x, String name, String words) throws ReflectiveOperationException {
        for (Method method : IcicleClock.class.getDeclaredMethods()) {
            if (Modifier.isPublic(method.getModifiers()) && method.getName().equals(name)) {
                String[] numbers = words.isEmpty() ? new String[0] : words.split(", ");
                Object[] given = new Object[numbers.length];
                for (int i = 0; i < given.length; i++) {
                    long number = Long.decode(numbers[i]);
                    given[i] = method.getParameterTypes()[i] == long.class ? (Object) number : (Object) (int) number;
                }
                return ((Number) method.invoke(x, given)).longValue();
            }
        }
        return -99;
    }

    private static void testsAreNamed(String page) throws IOException {
        try (var files = Files.newDirectoryStream(Path.of("src/test/java"), "*Test.java")) {
            for (Path file : files) {
                String name = file.getFileName().toString().replace(".java", "");
                boolean said = page.contains("`" + name + "`") || name.startsWith("Edge");
                Due.due("README says what " + name + " is", said ? 1 : 0, 1);
            }
        }
    }
}
