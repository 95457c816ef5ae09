/** The edges of Term II and of promises 6 to 17, 33 and 34, sentence by sentence. */
public final class EdgeFallsTest {
    private static final String HEAD = "street slam 3 bell 2 odds 5;";
    private static final int[] FAR = {-1, -2, 14, 32, 1000, Integer.MAX_VALUE, Integer.MIN_VALUE};

    /** Eave 0 loses 4, -9, 0 (in sum 4, -5, -5), eave 1 nothing, -9, nothing. */
    private static final String SMALL = HEAD + "day thaw 2;day frost 9;day thaw 0;eave sun 2;eave sun 0;"
        + "icicle at 0 length 4 hour 1;icicle at 0 length 5 hour 2;icicle at 1 length 1 hour 3;due hour 1 on 2;";

    /** As much as a street can have; eave 4 gains 9 on each of 13 days and loses 36 on the last. */
    private static final String FULL = "street slam 20 bell 20 odds 10;" + "day frost 9;".repeat(13) + "day thaw 9;"
        + "eave sun 4;".repeat(5) + "icicle at 4 length 99 hour 23;".repeat(8) + "due hour 23 on 13;".repeat(6);

    /** One less each day: a length of k falls on day k - 1, one of 15 never. */
    private static final String STEPS = HEAD + "day thaw 1;".repeat(14) + "eave sun 1;eave sun 1;"
        + "icicle at 0 length 1 hour 1;icicle at 0 length 14 hour 2;icicle at 0 length 15 hour 3;";

    public static void main(String[] args) {
        IcicleClock small = Due.street(SMALL);
        IcicleClock full = Due.street(FULL);
        IcicleClock steps = Due.street(STEPS);
        meltAndGrowth(small);
        fallsAtNought(small);
        byDoorsAndBells();
        day(small, full);
        melt(small, full);
        icicle(small, full);
        work(small, full);
        eave(small, full);
        falls(small, steps);
        length(small, full);
        longest(small, full);
        drops(small, steps);
        hang(small, full, steps);
        under(small, steps);
        rush(full, steps);
        next(small, steps);
        barest(full);
        Due.finish();
    }

    private static void meltAndGrowth(IcicleClock x) {
        Due.sentence(0, "thaw times its sun; of frost 0 less that, wherever (it grows)");
        Due.row("melts", new long[] {x.melt(0, 0), x.melt(1, 0), x.melt(0, 1), x.melt(1, 1), x.melt(0, 2)}, 4, 0, -9, -9, 0);
        Due.sentence(0, "An ICICLE hangs from DAY 0 on.");
        Due.row("day 0 counts", new long[] {x.falls(0), x.length(1, 0), x.drops(0)}, 0, 1, 1);
    }

    private static void fallsAtNought(IcicleClock x) {
        Due.sentence(0, "if it is 0 or less then, it FALLS on that DAY (its length is 0 from then on)");
        Due.row("at 0", new long[] {x.falls(0), x.length(0, 0), x.length(0, 1), x.length(0, 2)}, 0, 0, 0, 0);
        Due.row("not at 1", new long[] {x.falls(1), x.length(1, 0), x.length(1, 1), x.length(1, 2)}, -1, 1, 10, 10);
        x.hung(0, 1);
        Due.row("below 0", new long[] {x.falls(0), x.length(0, 0), x.length(0, 2), x.longest(0)}, 0, 0, 0, 1);
        x.hung(0, 4);
    }

    private static void byDoorsAndBells() {
        Due.sentence(0, "slam for each door slammed at its EAVE that DAY, and bell for each bell rung that DAY");
        IcicleClock x = Due.street(SMALL);
        Due.row("none", new long[] {x.length(1, 2), x.length(2, 2)}, 10, 10);
        x.door(0, 1);
        x.door(0, 1);
        x.ring(2);
        x.ring(2);
        Due.row("two doors at 0, two bells", new long[] {x.length(1, 0), x.length(1, 1), x.length(1, 2), x.length(2, 1),
            x.length(2, 2), x.falls(1)}, 1, 4, 0, 10, 6, 2);
    }

    private static void day(IcicleClock small, IcicleClock full) {
        Due.sentence(6, "its thaw (below 0: frost). -1,000: there is none such.");
        Due.row("days", new long[] {small.day(0), small.day(1), small.day(2), full.day(0), full.day(13)}, 2, -9, 0, -9, 9);
        for (int k : FAR) {
            Due.row("none such " + k, new long[] {small.day(k), full.day(k)}, -1000, -1000);
        }
        Due.row("beyond the last", new long[] {small.day(3), Due.street(HEAD).day(0)}, -1000, -1000);
        Due.due("frost 0", Due.street(HEAD + "day frost 0;").day(0), 0);
    }

    private static void melt(IcicleClock small, IcicleClock full) {
        Due.sentence(7, "MELT (II) of a DAY at an EAVE. -1,000: there are none such.");
        Due.row("the most, the least", new long[] {full.melt(4, 13), full.melt(4, 0)}, 36, -9);
        for (int k : FAR) {
            Due.row("none such " + k, new long[] {small.melt(k, 0), small.melt(0, k), full.melt(k, k)}, -1000, -1000, -1000);
        }
        Due.row("beyond the last", new long[] {small.melt(2, 0), small.melt(0, 3), full.melt(5, 0), full.melt(0, 14)},
            -1000, -1000, -1000, -1000);
        Due.row("no eave, no day", new long[] {Due.street(HEAD + "day thaw 1;").melt(0, 0),
            Due.street(HEAD + "eave sun 1;").melt(0, 0)}, -1000, -1000);
    }

    private static void icicle(IcicleClock small, IcicleClock full) {
        Due.sentence(8, "what 0: its EAVE, 1: length as told, 2: HOUR. -2: there are none such.");
        Due.row("the last", new long[] {full.icicle(7, 0), full.icicle(7, 1), full.icicle(7, 2)}, 4, 99, 23);
        for (int k : FAR) {
            Due.row("none such " + k, new long[] {small.icicle(k, 0), small.icicle(k, 2), small.icicle(0, k)}, -2, -2, -2);
        }
        Due.row("beyond the last", new long[] {small.icicle(3, 0), small.icicle(0, 3), full.icicle(8, 1), small.icicle(3, 3)},
            -2, -2, -2, -2);
        Due.row("as told, though hung otherwise", new long[] {small.hung(2, 50), small.icicle(2, 1), small.hung(2, 1)}, 1, 1, 50);
    }

    private static void work(IcicleClock small, IcicleClock full) {
        Due.sentence(9, "what 0: its HOUR, 1: DAY. -2: there are none such.");
        Due.row("the last", new long[] {full.work(5, 0), full.work(5, 1), small.work(0, 0), small.work(0, 1)}, 23, 13, 1, 2);
        for (int k : FAR) {
            Due.row("none such " + k, new long[] {small.work(k, 0), full.work(k, 1), small.work(0, k)}, -2, -2, -2);
        }
        Due.row("beyond the last", new long[] {small.work(1, 0), small.work(0, 2), full.work(6, 0)}, -2, -2, -2);
    }

    private static void eave(IcicleClock small, IcicleClock full) {
        Due.sentence(10, "ICICLES of an EAVE, as bits. -2: there is none such.");
        Due.row("some, all, none", new long[] {small.eave(0), small.eave(1), full.eave(4), full.eave(0)}, 3, 4, 255, 0);
        for (int k : FAR) {
            Due.due("none such " + k, small.eave(k), -2);
        }
        Due.row("beyond the last", new long[] {small.eave(2), full.eave(5), Due.street(HEAD).eave(0)}, -2, -2, -2);
    }

    private static void falls(IcicleClock small, IcicleClock steps) {
        Due.sentence(11, "The DAY on which an ICICLE FALLS. NONE: never; -2: there is none such.");
        Due.row("first, last, never", new long[] {steps.falls(0), steps.falls(1), steps.falls(2)}, 0, 13, -1);
        Due.due("no day, never", Due.street(HEAD + "eave sun 1;icicle at 0 length 1 hour 1;").falls(0), -1);
        for (int k : FAR) {
            Due.due("none such " + k, small.falls(k), -2);
        }
        Due.row("beyond the last", new long[] {small.falls(3), steps.falls(3), Due.street(HEAD).falls(0)}, -2, -2, -2);
    }

    private static void length(IcicleClock small, IcicleClock full) {
        Due.sentence(12, "Its length behind a DAY (0, if it fell). -2: there are none such.");
        Due.row("lengths", new long[] {small.length(0, 2), small.length(1, 0), full.length(7, 12), full.length(7, 13)},
            0, 1, 216, 180);
        for (int k : FAR) {
            Due.row("none such " + k, new long[] {small.length(k, 0), small.length(0, k), small.length(k, k)}, -2, -2, -2);
        }
        Due.row("beyond the last", new long[] {small.length(3, 0), small.length(0, 3), full.length(8, 0), full.length(0, 14)},
            -2, -2, -2, -2);
        Due.due("no day", Due.street(HEAD + "eave sun 1;icicle at 0 length 1 hour 1;").length(0, 0), -2);
    }

    private static void longest(IcicleClock small, IcicleClock full) {
        Due.sentence(13, "The greatest length that it has behind any DAY, or at first. -2 likewise.");
        Due.row("at first; behind a day; ahead of the last", new long[] {small.longest(0), small.longest(1), full.longest(0)},
            4, 10, 216);
        Due.due("no day", Due.street(HEAD + "eave sun 1;icicle at 0 length 99 hour 1;").longest(0), 99);
        for (int k : FAR) {
            Due.due("none such " + k, small.longest(k), -2);
        }
        Due.row("beyond the last", new long[] {small.longest(3), full.longest(8)}, -2, -2);
        IcicleClock last = Due.street(HEAD + "day thaw 1;day frost 9;eave sun 1;icicle at 0 length 5 hour 1;");
        Due.due("behind the last day", last.longest(0), 13);
    }

    private static void drops(IcicleClock small, IcicleClock steps) {
        Due.sentence(14, "ICICLES that FALL on a DAY, as bits. -2: there is none such.");
        Due.row("first, none, last", new long[] {steps.drops(0), steps.drops(1), steps.drops(13)}, 1, 0, 2);
        IcicleClock all = Due.street(HEAD + "day thaw 1;eave sun 1;" + "icicle at 0 length 1 hour 1;".repeat(8));
        Due.due("all", all.drops(0), 255);
        for (int k : FAR) {
            Due.due("none such " + k, small.drops(k), -2);
        }
        Due.row("beyond the last", new long[] {small.drops(3), steps.drops(14), Due.street(HEAD).drops(0)}, -2, -2, -2);
    }

    private static void hang(IcicleClock small, IcicleClock full, IcicleClock steps) {
        Due.sentence(15, "ICICLES that still hang behind a DAY, as bits. -2 likewise.");
        Due.row("not those of that day", new long[] {steps.hang(0), steps.hang(12), steps.hang(13)}, 6, 6, 4);
        IcicleClock all = Due.street(HEAD + "day thaw 1;eave sun 1;" + "icicle at 0 length 1 hour 1;".repeat(8));
        Due.row("all, none, none at all", new long[] {full.hang(13), all.hang(0), Due.street(HEAD + "day thaw 1;").hang(0)},
            255, 0, 0);
        for (int k : FAR) {
            Due.due("none such " + k, small.hang(k), -2);
        }
        Due.row("beyond the last", new long[] {small.hang(3), steps.hang(14), Due.street(HEAD).hang(0)}, -2, -2, -2);
    }

    private static void under(IcicleClock small, IcicleClock steps) {
        Due.sentence(16, "DAYS on which something FALLS at an EAVE, as bits. -2: there is none such.");
        Due.row("first and last, none", new long[] {steps.under(0), steps.under(1), small.under(0), small.under(1)},
            1 + 8192, 0, 1, 0);
        for (int k : FAR) {
            Due.due("none such " + k, small.under(k), -2);
        }
        Due.row("beyond the last", new long[] {small.under(2), Due.street(HEAD).under(0)}, -2, -2);
    }

    private static void rush(IcicleClock full, IcicleClock steps) {
        Due.sentence(17, "The DAY on which most FALL, the first of several, if any do. NONE: none; -2: there is no STREET.");
        Due.row("the first of two; none", new long[] {steps.rush(), full.rush()}, 0, -1);
        IcicleClock last = Due.street(STEPS + "icicle at 1 length 14 hour 4;");
        Due.due("the last, at two eaves together", last.rush(), 13);
        Due.row("no icicle, no day, no street", new long[] {Due.street(HEAD + "day thaw 9;").rush(), Due.street(HEAD).rush(),
            new IcicleClock().rush()}, -1, -1, -2);
    }

    private static void next(IcicleClock small, IcicleClock steps) {
        Due.sentence(33, "The first DAY behind a DAY on which something FALLS at an EAVE. NONE: none; -2: there are none such.");
        Due.row("behind 0, 12, 13", new long[] {steps.next(0, 0), steps.next(0, 12), steps.next(0, 13)}, 13, 13, -1);
        Due.row("at an eave with none", new long[] {steps.next(1, 0), small.next(1, 0), small.next(0, 0)}, -1, -1, -1);
        for (int k : FAR) {
            Due.row("none such " + k, new long[] {small.next(k, 0), small.next(0, k)}, -2, -2);
        }
        Due.row("beyond the last", new long[] {small.next(2, 0), small.next(0, 3), steps.next(0, 14)}, -2, -2, -2);
    }

    private static void barest(IcicleClock full) {
        Due.sentence(34, "The EAVE at which most FALL on all DAYS together, the first of several, if any do. NONE: none; "
            + "-2: there is no STREET.");
        IcicleClock x = Due.street(STEPS + "icicle at 1 length 14 hour 4;icicle at 1 length 2 hour 4;");
        Due.due("two each", x.barest(), 0);
        IcicleClock y = Due.street(STEPS + "icicle at 1 length 14 hour 4;".repeat(3));
        Due.due("three on one day", y.barest(), 1);
        IcicleClock z = Due.street(HEAD + "day thaw 1;eave sun 1;eave sun 1;icicle at 1 length 1 hour 1;icicle at 0 length 2 hour 1;");
        Due.row("one in all", new long[] {z.barest(), z.rush()}, 1, 0);
        Due.row("none falls, no eave, no street", new long[] {full.barest(), Due.street(HEAD).barest(),
            new IcicleClock().barest()}, -1, -1, -2);
    }
}
