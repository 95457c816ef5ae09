import java.io.IOException;
import java.io.UncheckedIOException;
import java.nio.charset.StandardCharsets;
import java.nio.file.Files;
import java.nio.file.Path;

/** What the tests share: answers that are due, counted, and a street's text fed as bytes. */
final class Due {
    private static int asked = 0;
    private static int wrong = 0;
    private static String held = "";

    private Due() {
    }

    static void due(String call, long got, long want) {
        asked++;
        if (got != want) {
            wrong++;
            if (wrong <= 40) {
                System.out.println(held + call + " answered " + got + ", due is " + want);
            }
        }
    }

    /** The words of the document that the next answers are held to; they must stand there. */
    static void sentence(int promise, String words) {
        held = "";
        due("promise " + promise + " has the words \"" + words + "\"", promiseText(promise).contains(words) ? 1 : 0, 1);
        held = "promise " + promise + ", \"" + words + "\": ";
    }

    /** What the document says under a promise; under 0 its terms. */
    static String promiseText(int promise) {
        String document = documentText();
        String title = promise == 0 ? "\n## Terms\n" : "\n## Promise " + promise + ": ";
        int from = document.indexOf(title);
        int to = from < 0 ? -1 : document.indexOf("\n## ", from + title.length());
        return to < 0 ? "" : document.substring(from + title.length(), to);
    }

    private static String documentText() {
        try {
            return Files.readString(Path.of("../shared/DOC.md"));
        } catch (IOException gone) {
            throw new UncheckedIOException(gone);
        }
    }

    /** Several answers at once, in their order. */
    static void row(String name, long[] got, long... want) {
        due(name + ": how many answers", got.length, want.length);
        for (int i = 0; i < want.length && i < got.length; i++) {
            due(name + " " + i, got[i], want[i]);
        }
    }

    static void finish() {
        System.out.println(asked + " answers asked, " + wrong + " not as due");
        if (wrong != 0 || asked == 0) {
            System.exit(1);
        }
    }

    static int wrongs() {
        return wrong;
    }

    /** Puts a text on an empty tape: by twenties, with the last ones cut off. */
    static void feedText(IcicleClock x, String text) {
        feedBytes(x, text.getBytes(StandardCharsets.ISO_8859_1));
    }

    static void feedBytes(IcicleClock x, byte[] bytes) {
        for (int from = 0; from < bytes.length; from += 20) {
            x.feed(four(bytes, from), four(bytes, from + 4), four(bytes, from + 8),
                four(bytes, from + 12), four(bytes, from + 16));
        }
        x.end(bytes.length);
    }

    private static int four(byte[] bytes, int from) {
        int number = 0;
        for (int i = from; i < from + 4; i++) {
            number = number << 8 | (i < bytes.length ? bytes[i] & 255 : '!');
        }
        return number;
    }

    static int tell(IcicleClock x, String text) {
        x.end(0);
        feedText(x, text);
        return x.street();
    }

    /** A new object with a street. */
    static IcicleClock street(String text) {
        IcicleClock x = new IcicleClock();
        int lines = tell(x, text);
        if (lines < 0) {
            wrong++;
            System.out.println("the test's own street is faulty at " + x.fault(1) + ": " + text);
        }
        return x;
    }

    /** All that a small street answers without being changed: what stays, stays in this. */
    static String print(IcicleClock x) {
        StringBuilder all = new StringBuilder();
        for (int what = 0; what <= 10; what++) {
            all.append(x.count(what)).append(' ');
        }
        all.append("fault ").append(x.fault(0)).append(' ').append(x.fault(1)).append(" off ").append(x.off());
        for (int day = 0; day < x.count(3); day++) {
            all.append(" day ").append(x.day(day)).append(' ').append(x.drops(day)).append(' ').append(x.hour(day));
        }
        for (int eave = 0; eave < x.count(4); eave++) {
            all.append(" eave ").append(x.eave(eave)).append(' ').append(x.under(eave));
        }
        for (int icicle = 0; icicle < x.count(5); icicle++) {
            all.append(" icicle ").append(x.icicle(icicle, 0)).append(' ').append(x.icicle(icicle, 1)).append(' ')
                .append(x.icicle(icicle, 2)).append(' ').append(x.falls(icicle)).append(' ').append(x.longest(icicle));
        }
        for (int work = 0; work < x.count(6); work++) {
            all.append(" work ").append(x.work(work, 0)).append(' ').append(x.work(work, 1)).append(' ').append(x.late(work));
        }
        return all.toString();
    }

    static void stays(String name, String before, IcicleClock x) {
        String now = print(x);
        due(name + " stays: " + before + " / " + now, before.equals(now) ? 1 : 0, 1);
    }

    /** Puts a row of pairs into a slot, of width 1. */
    static void see(IcicleClock x, int slot, int... numbers) {
        x.row(slot, 1, numbers.length);
        for (int i = 0; i < numbers.length; i++) {
            x.write(slot, i, numbers[i]);
        }
    }
}
