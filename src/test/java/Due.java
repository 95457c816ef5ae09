import java.nio.charset.StandardCharsets;

/** What the tests share: answers that are due, counted, and a street's text fed as bytes. */
final class Due {
    private static int asked = 0;
    private static int wrong = 0;

    private Due() {
    }

    static void due(String call, long got, long want) {
        asked++;
        if (got != want) {
            wrong++;
            if (wrong <= 40) {
                System.out.println(call + " answered " + got + ", due is " + want);
            }
        }
    }

    static void finish() {
        System.out.println(asked + " answers asked, " + wrong + " not as due");
        if (wrong != 0 || asked == 0) {
            System.exit(1);
        }
    }

    static int wrongs() {
        return wrong;
    }

    /** Puts a text on an empty tape: by twenties, with the last ones cut off. */
    static void feedText(IcicleClock x, String text) {
        feedBytes(x, text.getBytes(StandardCharsets.ISO_8859_1));
    }

    static void feedBytes(IcicleClock x, byte[] bytes) {
        for (int from = 0; from < bytes.length; from += 20) {
            x.feed(four(bytes, from), four(bytes, from + 4), four(bytes, from + 8),
                four(bytes, from + 12), four(bytes, from + 16));
        }
        x.end(bytes.length);
    }

    private static int four(byte[] bytes, int from) {
        int number = 0;
        for (int i = from; i < from + 4; i++) {
            number = number << 8 | (i < bytes.length ? bytes[i] & 255 : '!');
        }
        return number;
    }

    static int tell(IcicleClock x, String text) {
        x.end(0);
        feedText(x, text);
        return x.street();
    }

    /** A new object with a street. */
    static IcicleClock street(String text) {
        IcicleClock x = new IcicleClock();
        int lines = tell(x, text);
        if (lines < 0) {
            wrong++;
            System.out.println("the test's own street is faulty at " + x.fault(1) + ": " + text);
        }
        return x;
    }

    /** Puts a row of pairs into a slot, of width 1. */
    static void see(IcicleClock x, int slot, int... numbers) {
        x.row(slot, 1, numbers.length);
        for (int i = 0; i < numbers.length; i++) {
            x.write(slot, i, numbers[i]);
        }
    }
}
