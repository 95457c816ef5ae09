/** The edges of Term V and of promises 37 to 43, sentence by sentence. */
public final class EdgeSeenTest {
    private static final int NONE = IcicleClock.NONE;

    /** Five eaves, 14 days without sun: icicle 0 and 1 (at 4) fall by one door alone, on its day; icicle 2 by none. */
    private static final String FULL = "street slam 3 bell 2 odds 5;" + "day thaw 0;".repeat(14) + "eave sun 0;".repeat(5)
        + "icicle at 4 length 3 hour 1;icicle at 4 length 3 hour 1;icicle at 0 length 4 hour 1;";

    /** Two days; in a weather icicle 0 falls when the sum of thaws is 3, icicle 1 (sun 4) when it is 1, icicle 2 never. */
    private static final String TWO = "street slam 3 bell 2 odds 5;day thaw 1;day frost 9;eave sun 1;eave sun 4;eave sun 0;"
        + "icicle at 0 length 3 hour 1;icicle at 1 length 4 hour 1;icicle at 2 length 1 hour 1;";

    public static void main(String[] args) {
        slams();
        slamsRefused();
        slamsNothingThere();
        numbersNoneSuch();
        slam();
        calm();
        ask();
        weathers();
        weathersNoSuchN();
        daysNOrLater();
        weather();
        warmth();
        nDaysAlone();
        Due.finish();
    }

    private static long[] four(IcicleClock x, int slot) {
        return new long[] {x.slams(slot), x.slam(slot), x.calm(slot), x.ask(slot)};
    }

    private static long[] three(IcicleClock x, int slot, int n) {
        return new long[] {x.weathers(slot, n), x.weather(slot, n, 0), x.warmth(slot, n, 0)};
    }

    private static void slams() {
        Due.sentence(37, "pairs of an EAVE and a DAY by which all FALL as a SLOT's row tells: how many.");
        IcicleClock x = Due.street(FULL);
        x.row(0, 0, 0);
        Due.row("a row of nothing: all 70", four(x, 0), 70, 0, 1, 0);
        Due.see(x, 1, 0, 13);
        Due.row("one alone", four(x, 1), 1, 413, 0, NONE);
        x.row(2, 1, 60);
        for (int i = 0; i < 60; i += 2) {
            x.write(2, i + 1, 13);
        }
        Due.row("the same in sixty numbers", four(x, 2), 1, 413, 0, NONE);
        x.write(2, 59, 12);
        Due.row("but the last one", four(x, 2), 0, NONE, 0, NONE);
        Due.sentence(0, "(NONE: never)");
        Due.see(x, 3, 0, NONE, 1, NONE, 2, NONE);
        Due.row("none ever falls", four(x, 3), 56, 0, 1, NONE);
    }

    private static void slamsRefused() {
        Due.sentence(37, "-2: there is no such SLOT, no STREET, a number is none such (asked last), not two each");
        IcicleClock x = Due.street(FULL);
        int[] wrong = {-1, 4, 5, Integer.MAX_VALUE, Integer.MIN_VALUE};
        for (int slot : wrong) {
            Due.row("slot " + slot, four(x, slot), -2, -2, -2, -2);
        }
        x.row(0, 0, 1);
        Due.row("one number", four(x, 0), -2, -2, -2, -2);
        x.row(0, 0, 59);
        Due.row("59 numbers", four(x, 0), -2, -2, -2, -2);
        IcicleClock none = new IcicleClock();
        none.row(0, 0, 2);
        Due.row("no street, a row", four(none, 0), -2, -2, -2, -2);
        Due.row("no street, nothing", four(none, 1), -2, -2, -2, -2);
    }

    private static void slamsNothingThere() {
        Due.sentence(37, "-6: it has nothing.");
        Due.sentence(0, "-2 is asked ahead of -5, -6.");
        IcicleClock x = Due.street(FULL);
        x.row(2, 0, 0);
        for (int slot = 0; slot < 4; slot++) {
            int due = slot == 2 ? 0 : -6;
            Due.row("slot " + slot, new long[] {Math.min(0, x.slams(slot)), Math.min(0, x.slam(slot)), Math.min(0, x.calm(slot)),
                Math.min(0, x.ask(slot)), Math.min(0, x.weathers(slot, 1))}, due, due, due, due, due);
        }
        Due.row("no street", new long[] {new IcicleClock().slams(0), new IcicleClock().weathers(0, 1)}, -2, -2);
    }

    private static void numbersNoneSuch() {
        Due.sentence(37, "a number is none such (asked last)");
        IcicleClock x = Due.street(FULL);
        x.row(0, 3, 4);
        long[] icicles = {-1, 3, 8, 256, 1L << 32, Long.MAX_VALUE, Long.MIN_VALUE};
        for (long icicle : icicles) {
            x.write(0, 2, icicle);
            Due.row("icicle " + icicle, four(x, 0), -2, -2, -2, -2);
        }
        x.write(0, 2, 2);
        long[] days = {-2, 14, 255, (1L << 32) - 1, 1L << 32, Long.MAX_VALUE, Long.MIN_VALUE};
        for (long day : days) {
            x.write(0, 3, day);
            Due.row("day " + day, four(x, 0), -2, -2, -2, -2);
        }
        x.write(0, 3, NONE);
        Due.row("none wrong", four(x, 0), 1, 400, 0, NONE);
        Due.see(x, 1, 2, 0, 2, 1, 3, 0);
        Due.row("behind what can't fit", four(x, 1), -2, -2, -2, -2);
        IcicleClock bare = Due.street("street slam 3 bell 2 odds 5;day thaw 1;");
        bare.row(0, 0, 2);
        Due.row("no icicle", four(bare, 0), -2, -2, -2, -2);
        bare.row(0, 0, 0);
        Due.row("no eave: no pair", four(bare, 0), 0, NONE, 1, NONE);
    }

    private static void slam() {
        Due.sentence(38, "The first such pair (EAVE, then DAY): 100 times the EAVE and the DAY. NONE: none; -2, -6 likewise.");
        IcicleClock x = Due.street(FULL);
        Due.see(x, 0, 0, 0);
        Due.due("day 0 at 4", x.slam(0), 400);
        Due.see(x, 0, 0, NONE);
        Due.due("the first of 56", x.slam(0), 0);
        Due.see(x, 0, 2, 0);
        Due.due("none", x.slam(0), NONE);
        Due.row("refused", new long[] {x.slam(-1), x.slam(4), x.slam(1)}, -2, -2, -6);
        IcicleClock days = Due.street("street slam 3 bell 2 odds 5;day thaw 0;day thaw 0;eave sun 1;eave sun 1;"
            + "icicle at 0 length 3 hour 1;icicle at 1 length 3 hour 2;");
        Due.see(days, 0, 0, NONE, 1, 1);
        Due.row("the eave is asked ahead of the day", new long[] {days.slam(0), days.slams(0)}, 101, 1);
    }

    private static void calm() {
        Due.sentence(39, "1 if all FALL so without one, else 0. -2, -6 likewise.");
        IcicleClock x = Due.street(FULL);
        x.row(0, 0, 0);
        Due.due("of nothing", x.calm(0), 1);
        Due.see(x, 0, 0, NONE, 1, NONE, 2, 0);
        Due.due("all but one", x.calm(0), 0);
        Due.see(x, 0, 0, NONE, 0, 5);
        Due.due("once so, once not", x.calm(0), 0);
        Due.row("refused", new long[] {x.calm(-1), x.calm(4), x.calm(1)}, -2, -2, -6);
    }

    private static void ask() {
        Due.sentence(40, "leaves fewest of these SLAMS at worst, if fewer than now, the first of several. NONE: none; "
            + "-2, -6 likewise.");
        IcicleClock x = Due.street(FULL);
        x.row(0, 0, 0);
        Due.due("icicle 0 leaves 56, as 1 does; 2 leaves all", x.ask(0), 0);
        Due.see(x, 0, 0, 5);
        Due.due("one is not made fewer", x.ask(0), NONE);
        Due.see(x, 0, 2, 0);
        Due.due("nor none", x.ask(0), NONE);
        IcicleClock two = Due.street("street slam 3 bell 2 odds 5;day thaw 0;eave sun 1;eave sun 1;icicle at 1 length 3 hour 1;");
        two.row(0, 0, 0);
        Due.row("one of two fewer", new long[] {two.slams(0), two.ask(0)}, 2, 0);
        IcicleClock idle = Due.street(FULL.replace("slam 3", "slam 0"));
        idle.row(0, 0, 0);
        Due.row("doors that take nothing", new long[] {idle.slams(0), idle.ask(0)}, 70, NONE);
        Due.row("refused", new long[] {x.ask(-1), x.ask(4), x.ask(1)}, -2, -2, -6);
    }

    private static void weathers() {
        Due.sentence(0, "WEATHER: a row of n (1 .. 5) thaws 0 .. 3, DAY by DAY from 0");
        IcicleClock x = Due.street(TWO);
        x.row(0, 0, 0);
        Due.row("all of n days", new long[] {x.weathers(0, 1), x.weathers(0, 2), x.weathers(0, 3), x.weathers(0, 4),
            x.weathers(0, 5)}, 4, 16, 64, 256, 1024);
        Due.row("warmest", new long[] {x.warmth(0, 1, 0), x.warmth(0, 1, 1), x.warmth(0, 5, 0), x.warmth(0, 5, 1)}, 0, 3, 0, 15);
        Due.see(x, 0, 0, 0);
        Due.row("a thaw of 3, none of 4", new long[] {x.weathers(0, 1), x.weather(0, 1, 0)}, 1, 3);
        x.hung(0, 4);
        Due.row("4 can't be on one day", new long[] {x.weathers(0, 1), x.weather(0, 1, 0), x.warmth(0, 1, 0), x.warmth(0, 1, 1)},
            0, NONE, NONE, NONE);
        Due.see(x, 0, 1, 0, 1, NONE);
        Due.row("nor one that falls and never does", three(x, 0, 1), 0, NONE, NONE);
        warmestAndColdest();
    }

    /** A length of 15 falls on day 4 if all thaws are 3, one of 1 never if all are 0; without sun it never does. */
    private static void warmestAndColdest() {
        IcicleClock x = Due.street("street slam 3 bell 2 odds 5;" + "day frost 9;".repeat(5) + "eave sun 1;eave sun 0;"
            + "icicle at 0 length 15 hour 1;icicle at 0 length 16 hour 1;icicle at 0 length 1 hour 1;icicle at 1 length 1 hour 1;");
        Due.see(x, 0, 0, 4);
        Due.row("all threes", new long[] {x.weathers(0, 5), x.weather(0, 5, 0), x.weather(0, 5, 4), x.warmth(0, 5, 0),
            x.warmth(0, 5, 1)}, 1, 3, 3, 15, 15);
        Due.see(x, 0, 1, 4);
        Due.row("beyond", three(x, 0, 5), 0, NONE, NONE);
        Due.see(x, 0, 2, NONE);
        Due.row("all noughts", new long[] {x.weathers(0, 5), x.weather(0, 5, 4), x.warmth(0, 5, 0), x.warmth(0, 5, 1)}, 1, 0, 0, 0);
        Due.see(x, 0, 3, NONE);
        Due.row("no sun", new long[] {x.weathers(0, 5), x.warmth(0, 5, 1)}, 1024, 15);
    }

    private static void weathersNoSuchN() {
        Due.sentence(41, "no such n.");
        IcicleClock x = Due.street(TWO);
        x.row(0, 0, 0);
        int[] wrong = {0, 6, -1, Integer.MAX_VALUE, Integer.MIN_VALUE};
        for (int n : wrong) {
            Due.row("n " + n, three(x, 0, n), -2, -2, -2);
            Due.row("n " + n + " ahead of -6", three(x, 1, n), -2, -2, -2);
        }
        Due.row("1 and 5", new long[] {x.weathers(0, 1), x.weathers(0, 5)}, 4, 1024);
        Due.sentence(41, "-2, -6 likewise");
        Due.row("nothing there", three(x, 1, 1), -6, -6, -6);
        Due.row("no such slot", three(x, -1, 1), -2, -2, -2);
        Due.row("no such slot", three(x, 4, 5), -2, -2, -2);
        x.row(0, 0, 3);
        Due.row("not two each", three(x, 0, 1), -2, -2, -2);
        Due.see(x, 0, 3, 0);
        Due.row("no such icicle", three(x, 0, 1), -2, -2, -2);
        Due.see(x, 0, 0, -2);
        Due.row("no such day", three(x, 0, 1), -2, -2, -2);
        Due.row("no street", three(new IcicleClock(), 0, 1), -2, -2, -2);
    }

    private static void daysNOrLater() {
        Due.sentence(41, "(DAYS n or later, too, are none such)");
        IcicleClock x = Due.street(TWO.replace("day frost 9;", "day frost 9;".repeat(5)));
        for (int n = 1; n <= 5; n++) {
            Due.see(x, 0, 0, n - 1);
            Due.due("day n - 1 of " + n, Math.min(0, x.weathers(0, n)), 0);
            Due.see(x, 0, 0, n);
            Due.row("day n of " + n, three(x, 0, n), -2, -2, -2);
            Due.due("slams takes it", Math.min(0, x.slams(0)), 0);
        }
        Due.see(x, 0, 0, 6);
        Due.row("nor one that is not told", three(x, 0, 5), -2, -2, -2);
        IcicleClock two = Due.street(TWO);
        Due.see(two, 0, 0, 2);
        Due.row("nor one below n that is not told", three(two, 0, 5), -2, -2, -2);
    }

    private static void weather() {
        Due.sentence(42, "Thaw of a DAY of the first such (the least row). NONE: none fits; -2 (no such DAY of n), -6 likewise.");
        IcicleClock x = Due.street(TWO);
        Due.see(x, 0, 1, 0, 0, 1);
        Due.row("1, 2", new long[] {x.weathers(0, 2), x.weather(0, 2, 0), x.weather(0, 2, 1)}, 5, 1, 2);
        Due.row("all 0 behind", new long[] {x.weather(0, 5, 0), x.weather(0, 5, 1), x.weather(0, 5, 2), x.weather(0, 5, 4)},
            1, 2, 0, 0);
        int[] wrong = {-1, 2, 3, 14, Integer.MAX_VALUE, Integer.MIN_VALUE};
        for (int day : wrong) {
            Due.row("day " + day, new long[] {x.weather(0, 2, day), x.weather(1, 2, day)}, -2, -2);
        }
        Due.see(x, 0, 2, 0);
        Due.row("none fits; no such day is asked ahead of it", new long[] {x.weather(0, 2, 1), x.weather(0, 2, 2),
            x.weather(1, 2, 1)}, NONE, -2, -6);
    }

    private static void warmth() {
        Due.sentence(43, "The least (what 0), the greatest (1) sum of thaws of these. NONE: none fits; -2, -6 likewise.");
        IcicleClock x = Due.street(TWO);
        Due.see(x, 0, 0, NONE, 1, 1);
        Due.row("0, 1 and 0, 2", new long[] {x.weathers(0, 2), x.warmth(0, 2, 0), x.warmth(0, 2, 1)}, 2, 1, 2);
        int[] wrong = {-1, 2, Integer.MAX_VALUE, Integer.MIN_VALUE};
        for (int what : wrong) {
            Due.row("what " + what, new long[] {x.warmth(0, 2, what), x.warmth(1, 2, what)}, -2, -2);
        }
        Due.see(x, 0, 2, 1);
        Due.row("none fits", new long[] {x.warmth(0, 2, 0), x.warmth(0, 2, 1), x.warmth(1, 2, 0)}, NONE, NONE, -6);
    }

    private static void nDaysAlone() {
        Due.sentence(0, "instead of those told (n DAYS alone; acts aside)");
        IcicleClock x = Due.street(TWO);
        Due.see(x, 0, 0, NONE);
        long[] before = {x.weathers(0, 1), x.weathers(0, 2), x.weather(0, 2, 1), x.warmth(0, 2, 1)};
        Due.row("thaws told aside", before, 3, 6, 0, 2);
        x.door(0, 0);
        x.ring(1);
        Due.row("acts aside", new long[] {x.weathers(0, 1), x.weathers(0, 2), x.weather(0, 2, 1), x.warmth(0, 2, 1)}, before);
        Due.row("more days than told", new long[] {x.weathers(0, 5), x.warmth(0, 5, 1)}, 21, 2);
    }
}
