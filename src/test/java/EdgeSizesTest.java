/** The edges of promises 26 to 31, 35 and 36, sentence by sentence. */
public final class EdgeSizesTest {
    private static final String HEAD = "street slam 5 bell 14 odds 5;";
    private static final int[] FAR = {-1, -2, 14, 32, 1000, Integer.MAX_VALUE, Integer.MIN_VALUE};

    /** What is lost at eave 0, in sum: 27, 54, 81, 99, 102; at eave 1 nothing. */
    private static final String TO_99 = HEAD + "day thaw 9;day thaw 9;day thaw 9;day thaw 6;day thaw 1;eave sun 3;eave sun 0;"
        + "icicle at 0 length 5 hour 1;icicle at 1 length 5 hour 2;";

    /** On days of thaw 1 a length of 6 falls at a sun of 1 on day 5, of 2 on day 2, of 3 on day 1. */
    private static final String SIX_DAYS = HEAD + "day thaw 1;".repeat(6);

    public static void main(String[] args) {
        size();
        lengthsToTheLast();
        allElseAsItIs();
        sizes();
        place();
        placeFirstOfSeveral();
        best();
        offs();
        doors();
        doorsBesides();
        noneSuch();
        round();
        rounds();
        roundNoneSuch();
        Due.finish();
    }

    private static void size() {
        Due.sentence(26, "The least length (1 .. 99) by which an ICICLE FALLS on a DAY, all else as it is. NONE: by none");
        IcicleClock x = Due.street(TO_99);
        Due.row("days", new long[] {x.size(0, 0), x.size(0, 1), x.size(0, 2), x.size(0, 3), x.size(0, 4)}, 1, 28, 55, 82, -1);
        Due.row("no sun", new long[] {x.size(1, 0), x.size(1, 4)}, -1, -1);
        IcicleClock frost = Due.street(HEAD + "day thaw 2;day frost 2;day thaw 2;day thaw 1;eave sun 1;icicle at 0 length 5 hour 1;");
        Due.row("not by lengths gone already", new long[] {frost.size(0, 1), frost.size(0, 2), frost.size(0, 3)}, -1, -1, 3);
    }

    /** Seven bells of 14 take 98 on day 0: only 99 is left to fall on day 1. */
    private static void lengthsToTheLast() {
        Due.sentence(26, "(1 .. 99)");
        IcicleClock x = Due.street(HEAD + "day thaw 0;day thaw 1;eave sun 1;icicle at 0 length 5 hour 1;due hour 1 on 1;");
        for (int bell = 0; bell < 7; bell++) {
            x.ring(0);
        }
        Due.row("99 alone", new long[] {x.size(0, 1), x.sizes(0, 1), x.best(0), x.offs(0), x.sizes(0, 0)}, 99, 1, 99, 0, 98);
        x.ring(0);
        Due.row("not even that", new long[] {x.size(0, 1), x.sizes(0, 1), x.best(0), x.offs(0), x.sizes(0, 0), x.size(0, 0)},
            -1, 0, 1, 1, 99, 1);
    }

    private static void allElseAsItIs() {
        Due.sentence(26, "all else as it is");
        IcicleClock x = Due.street(TO_99);
        x.door(0, 1);
        Due.row("with a door", new long[] {x.size(0, 1), x.sizes(0, 1), x.size(0, 2), x.size(0, 3), x.sizes(0, 3)}, 28, 32, 60, 87, 13);
        Due.row("asking hangs nothing", new long[] {x.falls(0), x.longest(0), x.icicle(0, 1)}, 0, 5, 5);
    }

    private static void sizes() {
        Due.sentence(27, "How many lengths (1 .. 99) do so. -2 likewise.");
        IcicleClock x = Due.street(TO_99);
        Due.row("days", new long[] {x.sizes(0, 0), x.sizes(0, 1), x.sizes(0, 3), x.sizes(0, 4), x.sizes(1, 0)}, 27, 27, 18, 0, 0);
        IcicleClock all = Due.street("street slam 20 bell 20 odds 0;day thaw 0;eave sun 1;icicle at 0 length 5 hour 1;");
        for (int bell = 0; bell < 5; bell++) {
            all.ring(0);
        }
        Due.row("all of them", new long[] {all.sizes(0, 0), all.size(0, 0)}, 99, 1);
    }

    private static void place() {
        Due.sentence(28, "The EAVE at which it FALLS on the DAY nearest to a DAY, the first of several. NONE: at none it FALLS");
        IcicleClock x = Due.street(SIX_DAYS + "eave sun 0;eave sun 1;eave sun 2;eave sun 3;icicle at 0 length 6 hour 1;");
        Due.row("days", new long[] {x.place(0, 0), x.place(0, 1), x.place(0, 2), x.place(0, 3), x.place(0, 4), x.place(0, 5)},
            3, 3, 2, 2, 1, 1);
        IcicleClock first = Due.street(SIX_DAYS + "eave sun 2;eave sun 0;icicle at 1 length 6 hour 1;");
        Due.row("at 0", new long[] {first.place(0, 0), first.place(0, 5)}, 0, 0);
        IcicleClock dark = Due.street(SIX_DAYS + "eave sun 0;eave sun 0;icicle at 1 length 1 hour 1;");
        Due.row("at none", new long[] {dark.place(0, 0), dark.place(0, 5)}, -1, -1);
        IcicleClock far = Due.street(HEAD + "day thaw 1;".repeat(14) + "eave sun 0;eave sun 1;icicle at 0 length 14 hour 1;"
            + "icicle at 0 length 1 hour 1;");
        Due.row("13 days off", new long[] {far.place(0, 0), far.place(1, 13)}, 1, 1);
    }

    private static void placeFirstOfSeveral() {
        Due.sentence(28, "the first of several");
        IcicleClock x = Due.street(SIX_DAYS + "eave sun 0;eave sun 3;eave sun 1;icicle at 0 length 6 hour 1;");
        IcicleClock y = Due.street(SIX_DAYS + "eave sun 0;eave sun 1;eave sun 3;eave sun 3;icicle at 0 length 6 hour 1;");
        Due.row("two days ahead or behind", new long[] {x.place(0, 3), y.place(0, 3)}, 1, 1);
        Due.row("of one day", new long[] {y.place(0, 1), y.place(0, 2)}, 2, 2);
        y.door(3, 0);
        Due.row("by the doors there are", new long[] {y.place(0, 0), y.place(0, 1)}, 3, 2);
    }

    private static void best() {
        Due.sentence(29, "The length (1 .. 99) of an ICICLE by which off() is least, the least of several.");
        IcicleClock x = Due.street(TO_99 + "due hour 1 on 3;");
        Due.row("82 to 99", new long[] {x.best(0), x.best(1)}, 82, 1);
        IcicleClock late = Due.street(TO_99 + "due hour 1 on 4;");
        Due.row("nearest to what none reaches", new long[] {late.best(0), late.offs(0)}, 82, 1);
        IcicleClock steps = Due.street(SIX_DAYS + "eave sun 1;icicle at 0 length 6 hour 1;due hour 1 on 1;");
        Due.row("2 alone", new long[] {steps.best(0), steps.offs(0)}, 2, 0);
        IcicleClock first = Due.street(SIX_DAYS + "eave sun 1;icicle at 0 length 6 hour 1;due hour 1 on 0;");
        Due.row("1 alone", new long[] {first.best(0), first.offs(0)}, 1, 0);
        IcicleClock none = Due.street(TO_99);
        Due.row("no work", new long[] {none.best(0), none.best(1), none.offs(0)}, 1, 1, 0);
        IcicleClock two = Due.street(TO_99 + "due hour 1 on 0;due hour 1 on 2;");
        Due.row("between two works", new long[] {two.best(0), two.offs(0)}, 1, 2);
    }

    private static void offs() {
        Due.sentence(30, "That off(). -2 likewise.");
        IcicleClock x = Due.street(TO_99 + "due hour 1 on 3;due hour 2 on 0;due hour 9 on 0;");
        Due.row("as it would be", new long[] {x.offs(0), x.offs(1), x.off()}, 198, 201, 201);
        IcicleClock met = Due.street(TO_99 + "due hour 1 on 0;");
        Due.row("none off", new long[] {met.offs(0), met.off()}, 0, 0);
    }

    private static void doors() {
        Due.sentence(31, "The fewest doors (0 .. 20) slammed at its EAVE on a DAY");
        IcicleClock x = Due.street(HEAD + "day thaw 0;day frost 1;day frost 1;eave sun 1;icicle at 0 length 99 hour 1;"
            + "icicle at 0 length 5 hour 1;icicle at 0 length 6 hour 1;");
        Due.row("to 99, 100, 101", new long[] {x.doors(0, 0), x.doors(0, 1), x.doors(0, 2)}, 20, 20, -1);
        Due.row("one, two", new long[] {x.doors(1, 0), x.doors(2, 0), x.doors(1, 1)}, 1, 2, 2);
        Due.sentence(31, "by which an ICICLE FALLS by that DAY. NONE: by none");
        IcicleClock y = Due.street("street slam 0 bell 14 odds 5;day thaw 5;day thaw 1;eave sun 1;icicle at 0 length 5 hour 1;"
            + "icicle at 0 length 6 hour 1;icicle at 0 length 7 hour 1;");
        Due.row("without one, or by none", new long[] {y.doors(0, 0), y.doors(0, 1), y.doors(1, 0), y.doors(1, 1), y.doors(2, 1)},
            0, 0, -1, 0, -1);
    }

    private static void doorsBesides() {
        Due.sentence(31, "besides those there are");
        IcicleClock x = Due.street(HEAD + "day thaw 0;day thaw 0;eave sun 1;eave sun 1;icicle at 0 length 99 hour 1;");
        x.door(0, 0);
        x.door(1, 0);
        Due.row("one there, one elsewhere", new long[] {x.doors(0, 0), x.doors(0, 1), x.count(7)}, 19, 19, 2);
        for (int act = 2; act < 40; act++) {
            x.door(1, 1);
        }
        Due.row("asked of forty acts", new long[] {x.count(7), x.doors(0, 1)}, 40, 19);
    }

    private static void noneSuch() {
        Due.sentence(26, "-2: there are none such.");
        IcicleClock x = Due.street(TO_99 + "due hour 1 on 3;");
        for (int k : FAR) {
            Due.row("of days and icicles " + k, new long[] {x.size(k, 0), x.size(0, k), x.sizes(k, 0), x.sizes(0, k)},
                -2, -2, -2, -2);
        }
        Due.row("beyond the last", new long[] {x.size(2, 0), x.size(0, 5), x.sizes(2, 0), x.sizes(0, 5)}, -2, -2, -2, -2);
        Due.sentence(28, "-2 likewise.");
        for (int k : FAR) {
            Due.row("place " + k, new long[] {x.place(k, 0), x.place(0, k)}, -2, -2);
        }
        Due.row("place beyond the last", new long[] {x.place(2, 0), x.place(0, 5)}, -2, -2);
        Due.sentence(29, "-2: there is none such.");
        for (int k : FAR) {
            Due.row("best, offs " + k, new long[] {x.best(k), x.offs(k)}, -2, -2);
        }
        Due.row("best, offs beyond the last", new long[] {x.best(2), x.offs(2)}, -2, -2);
        Due.sentence(31, "-2: there are none such.");
        for (int k : FAR) {
            Due.row("doors " + k, new long[] {x.doors(k, 0), x.doors(0, k)}, -2, -2);
        }
        Due.row("doors beyond the last", new long[] {x.doors(2, 0), x.doors(0, 5)}, -2, -2);
        IcicleClock still = Due.street(HEAD + "eave sun 1;icicle at 0 length 5 hour 1;");
        Due.row("no day", new long[] {still.size(0, 0), still.sizes(0, 0), still.place(0, 0), still.doors(0, 0), still.best(0),
            still.offs(0)}, -2, -2, -2, -2, 1, 0);
    }

    private static void round() {
        Due.sentence(35, "of a way from an EAVE to all of a set (bits), by any order.");
        IcicleClock x = Due.street(HEAD + "eave sun 1;".repeat(5));
        Due.row("to none", new long[] {x.round(0, 0), x.round(4, 0)}, 0, 0);
        Due.row("to itself", new long[] {x.round(0, 1), x.round(4, 16)}, 0, 0);
        Due.row("to all", new long[] {x.round(0, 31), x.round(1, 31), x.round(2, 31), x.round(3, 31), x.round(4, 31)}, 4, 5, 6, 5, 4);
        Due.row("no way round by the ends", new long[] {x.round(0, 16), x.round(4, 1), x.round(2, 17)}, 4, 4, 6);
        IcicleClock one = Due.street(HEAD + "eave sun 1;");
        Due.row("one eave", new long[] {one.round(0, 0), one.round(0, 1), one.round(0, 2), one.round(1, 1)}, 0, 0, -2, -2);
    }

    private static void rounds() {
        Due.sentence(36, "EAVE i (from 0) of the set by the first such order (the least row). NONE: there is none such");
        IcicleClock x = Due.street(HEAD + "eave sun 1;".repeat(5));
        long[][] orders = {{0, 1, 2, 3, 4}, {0, 1, 2, 3, 4}, {0, 1, 2, 3, 4}, {3, 4, 2, 1, 0}, {4, 3, 2, 1, 0}};
        for (int from = 0; from < 5; from++) {
            Due.row("all from " + from, new long[] {x.rounds(from, 31, 0), x.rounds(from, 31, 1), x.rounds(from, 31, 2),
                x.rounds(from, 31, 3), x.rounds(from, 31, 4)}, orders[from]);
        }
        Due.row("none such", new long[] {x.rounds(0, 31, 5), x.rounds(0, 31, -1), x.rounds(0, 31, Integer.MAX_VALUE),
            x.rounds(0, 31, Integer.MIN_VALUE), x.rounds(0, 0, 0), x.rounds(0, 16, 1)}, -1, -1, -1, -1, -1, -1);
        Due.row("either end as near", new long[] {x.rounds(2, 17, 0), x.rounds(2, 17, 1), x.rounds(2, 17, 2)}, 0, 4, -1);
    }

    private static void roundNoneSuch() {
        Due.sentence(35, "-2: there are none such.");
        IcicleClock x = Due.street(HEAD + "eave sun 1;".repeat(5));
        IcicleClock four = Due.street(HEAD + "eave sun 1;".repeat(4));
        for (int k : new int[] {-1, 5, 32, Integer.MAX_VALUE, Integer.MIN_VALUE}) {
            Due.row("from " + k, new long[] {x.round(k, 0), x.round(k, 1)}, -2, -2);
        }
        for (int set : new int[] {32, 63, -1, 1 << 30, Integer.MAX_VALUE, Integer.MIN_VALUE}) {
            Due.due("set " + set, x.round(0, set), -2);
        }
        Due.row("of four", new long[] {four.round(4, 0), four.round(0, 16), four.round(0, 15)}, -2, -2, 3);
        Due.due("of none", Due.street(HEAD).round(0, 0), -2);
        Due.sentence(36, "-2 likewise.");
        Due.row("rounds", new long[] {x.rounds(5, 1, 0), x.rounds(-1, 1, 0), x.rounds(0, 32, 0), x.rounds(0, -1, 0),
            x.rounds(5, 1, 9), x.rounds(0, 32, -1), four.rounds(0, 16, 0), four.rounds(4, 1, 0)},
            -2, -2, -2, -2, -2, -2, -2, -2);
    }
}
