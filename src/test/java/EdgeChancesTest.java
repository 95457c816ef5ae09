import java.math.BigInteger;

/** The edges of Terms VI and IX and of promises 44 to 46, 56 and 57, sentence by sentence. */
public final class EdgeChancesTest {
    private static final int NONE = IcicleClock.NONE;
    private static final int[] FAR = {-1, -2, 14, 32, 1000, Integer.MAX_VALUE, Integer.MIN_VALUE};
    private static final int[] SEEDS = {0, 1, 2, 65535, 65536, 1234567, 1999999999, 2000000000};

    public static void main(String[] args) {
        thawOfNought();
        lowestTerms();
        warmAndCold();
        chanceNoneSuch();
        likely();
        likelyNever();
        surest();
        surestNone();
        draws();
        drawnWhat();
        drawnNoDay();
        drawnNoneSuch();
        actsAreDone();
        luck();
        luckNoneSuch();
        Due.finish();
    }

    private static String street(int odds, String rest) {
        return "street slam 3 bell 2 odds " + odds + ";" + rest;
    }

    private static void thawOfNought() {
        Due.sentence(0, "A DAY told by thaw (0, too) is a DAY of thaw.");
        String ice = "eave sun 1;icicle at 0 length 1 hour 1;";
        IcicleClock thaw = Due.street(street(10, "day thaw 0;" + ice));
        IcicleClock frost = Due.street(street(10, "day frost 0;" + ice));
        Due.row("thaw 0", new long[] {thaw.chance(0, 0, 0), thaw.drawn(0, 0), thaw.drawn(0, 1), thaw.falls(0)}, 1, 1, 1, NONE);
        Due.row("frost 0", new long[] {frost.chance(0, 0, 0), frost.drawn(0, 0), frost.drawn(0, 1), frost.falls(0)}, 0, 0, 0, NONE);
        Due.sentence(0, "each DAY of thaw is warm with odds in ten, by itself: its thaw is then one more.");
        IcicleClock sun = Due.street(street(3, "day thaw 1;day frost 9;eave sun 4;icicle at 0 length 8 hour 1;icicle at 0 length 9 hour 1;"));
        Due.row("one more, times the sun", new long[] {sun.chance(0, 0, 0), sun.chance(0, 0, 1), sun.chance(1, 0, 0)}, 3, 10, 0);
    }

    private static void lowestTerms() {
        Due.sentence(0, "FRACTIONS are told in lowest terms (0 / 1).");
        Due.sentence(44, "The chance (VI) that an ICICLE FALLS on a DAY, above (what 0), below (1).");
        long[] above = {0, 1, 1, 4782969, 16384, 1, 4782969, 678223072849L, 268435456, 22876792454961L, 1};
        long[] below = {1, 100000000000000L, 6103515625L, 100000000000000L, 6103515625L, 16384, 6103515625L, 100000000000000L,
            6103515625L, 100000000000000L, 1};
        for (int odds = 0; odds <= 10; odds++) {
            IcicleClock x = Due.street(street(odds, "day thaw 0;".repeat(14) + "eave sun 1;icicle at 0 length 14 hour 1;"
                + "icicle at 0 length 15 hour 1;"));
            Due.row("14 warm days by odds " + odds, new long[] {x.chance(0, 13, 0), x.chance(0, 13, 1)}, above[odds], below[odds]);
            Due.row("ahead of it, and one more", new long[] {x.chance(0, 12, 0), x.chance(0, 12, 1), x.chance(1, 13, 0),
                x.chance(1, 13, 1)}, 0, 1, 0, 1);
        }
    }

    private static void warmAndCold() {
        Due.sentence(0, "warm with odds in ten, by itself");
        IcicleClock x = Due.street(street(3, "day thaw 0;".repeat(14) + "eave sun 1;icicle at 0 length 13 hour 1;"
            + "icicle at 0 length 1 hour 1;icicle at 0 length 2 hour 1;"));
        Due.row("on the last day, one of 13 ahead being cold", new long[] {x.chance(0, 13, 0), x.chance(0, 13, 1)},
            13L * 7 * 1594323, 100000000000000L);
        Due.row("first on day 2; second on day 2", new long[] {x.chance(1, 2, 0), x.chance(1, 2, 1), x.chance(2, 2, 0),
            x.chance(2, 2, 1)}, 147, 1000, 63, 500);
    }

    private static void chanceNoneSuch() {
        Due.sentence(44, "-2: there are none such.");
        IcicleClock x = Due.street(street(5, "day thaw 1;day thaw 1;eave sun 1;icicle at 0 length 1 hour 1;"));
        for (int k : FAR) {
            Due.row("none such " + k, new long[] {x.chance(k, 0, 0), x.chance(0, k, 0), x.chance(0, 0, k)}, -2, -2, -2);
        }
        Due.row("beyond the last", new long[] {x.chance(1, 0, 0), x.chance(0, 2, 1), x.chance(0, 0, 2)}, -2, -2, -2);
        IcicleClock still = Due.street(street(5, "eave sun 1;icicle at 0 length 1 hour 1;"));
        Due.row("no day", new long[] {still.chance(0, 0, 0), still.chance(0, 0, 1)}, -2, -2);
    }

    private static void likely() {
        Due.sentence(45, "The likeliest DAY, the first of several.");
        String ice = "eave sun 1;icicle at 0 length 1 hour 1;icicle at 0 length 2 hour 1;";
        IcicleClock even = Due.street(street(5, "day thaw 0;day thaw 1;" + ice));
        Due.row("half on 0, half on 1", new long[] {even.likely(0), even.likely(1)}, 0, 1);
        IcicleClock later = Due.street(street(4, "day thaw 0;day thaw 1;" + ice));
        Due.due("four on 0, six on 1", later.likely(0), 1);
        IcicleClock last = Due.street(street(0, "day thaw 0;".repeat(13) + "day thaw 1;" + ice));
        Due.row("surely on the last", new long[] {last.likely(0), last.likely(1)}, 13, NONE);
        IcicleClock frost = Due.street(street(5, "day frost 0;day frost 0;" + ice));
        frost.door(0, 1);
        Due.row("surely, without a day of thaw", new long[] {frost.likely(0), frost.chance(0, 1, 0), frost.chance(0, 1, 1)}, 1, 1, 1);
    }

    private static void likelyNever() {
        Due.sentence(45, "NONE: never is likelier, or as likely; -2: there is none such.");
        String ice = "eave sun 1;icicle at 0 length 1 hour 1;";
        Due.row("as likely; less; more", new long[] {Due.street(street(5, "day thaw 0;" + ice)).likely(0),
            Due.street(street(4, "day thaw 0;" + ice)).likely(0), Due.street(street(6, "day thaw 0;" + ice)).likely(0)}, NONE, NONE, 0);
        IcicleClock x = Due.street(street(5, "eave sun 1;icicle at 0 length 1 hour 1;"));
        Due.due("no day", x.likely(0), NONE);
        for (int k : FAR) {
            Due.due("none such " + k, x.likely(k), -2);
        }
        Due.row("beyond the last, none", new long[] {x.likely(1), Due.street(street(5, "day thaw 1;")).likely(0)}, -2, -2);
    }

    private static void surest() {
        Due.sentence(46, "The length (1 .. 99) by which the chance that it FALLS on a DAY is greatest, the least of several");
        IcicleClock x = Due.street("street slam 3 bell 14 odds 5;day thaw 0;day thaw 1;eave sun 1;icicle at 0 length 5 hour 1;");
        for (int bell = 0; bell < 7; bell++) {
            x.ring(0);
        }
        Due.row("1 to 98 surely on 0; 99 or more on 1", new long[] {x.surest(0, 0), x.surest(0, 1)}, 1, 99);
        IcicleClock y = Due.street(street(5, "day thaw 1;day thaw 1;eave sun 1;icicle at 0 length 50 hour 1;"));
        Due.row("1 surely; 2 by a half, 3 by three quarters", new long[] {y.surest(0, 0), y.surest(0, 1)}, 1, 3);
        Due.row("it hangs as it hung", new long[] {y.longest(0), y.falls(0)}, 50, NONE);
        IcicleClock even = Due.street(street(5, "day thaw 1;day thaw 0;day frost 9;day thaw 9;eave sun 1;icicle at 0 length 50 hour 1;"));
        Due.due("1 never, 2 and no other", even.surest(0, 1), 2);
        IcicleClock least = Due.street(street(1, "day thaw 0;eave sun 1;icicle at 0 length 50 hour 1;"));
        Due.due("one in ten", least.surest(0, 0), 1);
    }

    private static void surestNone() {
        Due.sentence(46, "if above 0. NONE: none; -2: there are none such.");
        IcicleClock x = Due.street(street(5, "day thaw 1;day frost 1;eave sun 1;eave sun 0;icicle at 0 length 1 hour 1;"
            + "icicle at 1 length 1 hour 1;"));
        Due.row("on frost; without sun", new long[] {x.surest(0, 1), x.surest(1, 0)}, NONE, NONE);
        IcicleClock far = Due.street("street slam 3 bell 20 odds 5;day thaw 0;day thaw 1;eave sun 1;icicle at 0 length 5 hour 1;");
        for (int bell = 0; bell < 5; bell++) {
            far.ring(0);
        }
        Due.due("all have gone on 0", far.surest(0, 1), NONE);
        for (int k : FAR) {
            Due.row("none such " + k, new long[] {x.surest(k, 0), x.surest(0, k)}, -2, -2);
        }
        Due.row("beyond the last", new long[] {x.surest(2, 0), x.surest(0, 2)}, -2, -2);
    }

    /** The days of thaw that are warm, as the document says draws, in numbers that can't run over. */
    private static int warmDays(long seed, int odds, int days) {
        BigInteger x = BigInteger.valueOf(seed);
        int bits = 0;
        for (int day = 0; day < days; day++) {
            x = x.multiply(BigInteger.valueOf(1103515245)).add(BigInteger.valueOf(12345)).mod(BigInteger.valueOf(2147483648L));
            int draw = x.divide(BigInteger.valueOf(65536)).mod(BigInteger.TEN).intValue();
            bits |= draw < odds ? 1 << day : 0;
        }
        return bits;
    }

    private static void draws() {
        Due.sentence(0, "modulo 2,147,483,648 (at first it is the seed); a draw: x / 65536, cut, modulo 10.");
        Due.sentence(0, "for each DAY of thaw a draw: below odds it is warm");
        for (int odds = 0; odds <= 10; odds++) {
            IcicleClock x = Due.street(street(odds, "day thaw 1;".repeat(14)));
            for (int seed : SEEDS) {
                Due.due("odds " + odds + ", seed " + seed, x.drawn(seed, 0), warmDays(seed, odds, 14));
            }
        }
        IcicleClock some = Due.street(street(5, "day frost 1;day thaw 1;day frost 0;day thaw 0;"));
        int two = warmDays(7, 5, 2);
        Due.due("no draw for frost", some.drawn(7, 0), (two & 1) << 1 | (two & 2) << 2);
    }

    private static void drawnWhat() {
        Due.sentence(56, "what 0: DAYS that are warm, as bits, 1: ICICLES that FALL by the last DAY, as bits, "
            + "2: the TIME of the street on the last DAY");
        IcicleClock all = Due.street(street(10, "day thaw 0;".repeat(14) + "eave sun 1;" + "icicle at 0 length 14 hour 23;".repeat(8)));
        Due.row("all days, all icicles", new long[] {all.drawn(0, 0), all.drawn(0, 1), all.drawn(0, 2)}, 16383, 255, 23);
        IcicleClock none = Due.street(street(0, "day thaw 0;".repeat(14) + "eave sun 1;" + "icicle at 0 length 1 hour 0;".repeat(8)));
        Due.row("none, and none fell", new long[] {none.drawn(0, 0), none.drawn(0, 1), none.drawn(0, 2)}, 0, 0, NONE);
        Due.row("the winter as told is as it was", new long[] {all.falls(0), all.hour(13), all.count(7)}, NONE, NONE, 0);
        IcicleClock nought = Due.street(street(10, "day thaw 0;eave sun 1;icicle at 0 length 1 hour 0;"));
        Due.due("hour 0 is told", nought.drawn(3, 2), 0);
    }

    private static void drawnNoDay() {
        Due.sentence(56, "(NONE: none FELL, no DAY)");
        IcicleClock x = Due.street(street(10, "eave sun 1;icicle at 0 length 1 hour 0;"));
        Due.row("no day", new long[] {x.drawn(0, 0), x.drawn(0, 1), x.drawn(0, 2)}, 0, 0, NONE);
        IcicleClock bare = Due.street(street(10, ""));
        Due.row("nothing at all", new long[] {bare.drawn(0, 0), bare.drawn(0, 1), bare.drawn(0, 2)}, 0, 0, NONE);
    }

    private static void drawnNoneSuch() {
        Due.sentence(56, "(0 .. 2,000,000,000)");
        Due.sentence(56, "-2: there are none such, no STREET.");
        IcicleClock x = Due.street(street(5, "day thaw 1;"));
        for (int what = 0; what <= 2; what++) {
            Due.row("seeds, what " + what, new long[] {x.drawn(-1, what), x.drawn(2000000001, what), x.drawn(Integer.MAX_VALUE, what),
                x.drawn(Integer.MIN_VALUE, what), new IcicleClock().drawn(0, what)}, -2, -2, -2, -2, -2);
        }
        Due.row("whats", new long[] {x.drawn(0, -1), x.drawn(0, 3), x.drawn(0, Integer.MAX_VALUE), x.drawn(0, Integer.MIN_VALUE)},
            -2, -2, -2, -2);
        Due.row("the seeds at the ends", new long[] {Math.min(0, x.drawn(0, 0)), Math.min(0, x.drawn(2000000000, 0))}, 0, 0);
    }

    private static void actsAreDone() {
        Due.sentence(0, "(acts are done, too)");
        IcicleClock x = Due.street(street(10, "day thaw 0;eave sun 1;icicle at 0 length 6 hour 9;"));
        Due.row("without", new long[] {x.drawn(0, 1), x.drawn(0, 2), x.luck(0, 20, 0, 0)}, 0, NONE, 0);
        x.door(0, 0);
        x.ring(0);
        Due.row("with a door and a bell", new long[] {x.drawn(0, 1), x.drawn(0, 2), x.luck(0, 20, 0, 0), x.falls(0)}, 1, 9, 20, NONE);
    }

    private static int lucky(long seed, int n, int odds, int lastDay) {
        int many = 0;
        for (int k = 0; k < n; k++) {
            many += warmDays(seed + k, odds, lastDay + 1) != 0 ? 1 : 0;
        }
        return many;
    }

    private static void luck() {
        Due.sentence(57, "Of n (1 .. 20) such from seeds, the seed and 1, .., in how many an ICICLE FALLS by a DAY.");
        IcicleClock x = Due.street(street(2, "day thaw 0;".repeat(3) + "eave sun 1;eave sun 0;icicle at 0 length 1 hour 1;"
            + "icicle at 1 length 1 hour 1;"));
        for (int seed : SEEDS) {
            for (int day = 0; day < 3; day++) {
                Due.row("seed " + seed + ", day " + day, new long[] {x.luck(seed, 1, 0, day), x.luck(seed, 20, 0, day),
                    x.luck(seed, 20, 1, day)}, lucky(seed, 1, 2, day), lucky(seed, 20, 2, day), 0);
            }
        }
        IcicleClock sure = Due.street(street(0, "day thaw 1;day thaw 0;eave sun 1;icicle at 0 length 1 hour 1;"));
        Due.row("in all", new long[] {sure.luck(0, 20, 0, 0), sure.luck(0, 20, 0, 1), sure.luck(2000000000, 1, 0, 1)}, 20, 20, 1);
    }

    private static void luckNoneSuch() {
        Due.sentence(57, "-2: there are none such.");
        IcicleClock x = Due.street(street(5, "day thaw 1;day thaw 1;eave sun 1;icicle at 0 length 1 hour 1;"));
        Due.row("n", new long[] {x.luck(0, 0, 0, 0), x.luck(0, 21, 0, 0), x.luck(0, -1, 0, 0), x.luck(0, Integer.MAX_VALUE, 0, 0),
            x.luck(0, Integer.MIN_VALUE, 0, 0)}, -2, -2, -2, -2, -2);
        Due.row("seeds", new long[] {x.luck(-1, 1, 0, 0), x.luck(2000000001, 1, 0, 0), x.luck(Integer.MIN_VALUE, 1, 0, 0),
            x.luck(Integer.MAX_VALUE, 1, 0, 0)}, -2, -2, -2, -2);
        for (int k : FAR) {
            Due.row("icicle, day " + k, new long[] {x.luck(0, 1, k, 0), x.luck(0, 1, 0, k)}, -2, -2);
        }
        Due.row("beyond the last, no street", new long[] {x.luck(0, 1, 1, 0), x.luck(0, 1, 0, 2),
            new IcicleClock().luck(0, 1, 0, 0)}, -2, -2, -2);
    }
}
