/** The edges of Terms III and IV and of promises 18 to 25 and 32, sentence by sentence. */
public final class EdgeTimesTest {
    private static final String HEAD = "street slam 3 bell 2 odds 5;";
    private static final int[] FAR = {-1, -2, 14, 32, 1000, Integer.MAX_VALUE, Integer.MIN_VALUE};

    /** On day 0 icicles 0 and 2 fall at eave 0, 1 at eave 1; on day 1 icicle 3 at 0, on day 2 icicle 4 at 1. */
    private static final String THREE = HEAD + "day thaw 1;day thaw 1;day thaw 1;eave sun 1;eave sun 1;eave sun 1;"
        + "icicle at 0 length 1 hour 5;icicle at 1 length 1 hour 6;icicle at 0 length 1 hour 7;"
        + "icicle at 0 length 2 hour 0;icicle at 1 length 3 hour 23;";

    /** Hour 1 falls on day 0, hour 2 on day 13, hour 3 never; there is no hour 4. */
    private static final String WINTER = HEAD + "day thaw 1;".repeat(14) + "eave sun 1;icicle at 0 length 1 hour 1;"
        + "icicle at 0 length 14 hour 2;icicle at 0 length 15 hour 3;icicle at 0 length 5 hour 1;";

    public static void main(String[] args) {
        IcicleClock x = Due.street(THREE);
        lastByThatDay(x);
        time(x);
        hour(x);
        meet(x);
        apart(x);
        shorterWayRound();
        tells(x);
        metByTheFirst();
        late();
        lates();
        off();
        worst();
        Due.finish();
    }

    private static void lastByThatDay(IcicleClock x) {
        Due.sentence(0, "the HOUR of the ICICLE that FELL there last by that DAY (of one DAY the greatest number)");
        Due.row("at 0", new long[] {x.time(0, 0), x.time(0, 1), x.time(0, 2)}, 7, 0, 0);
        Due.row("at 1", new long[] {x.time(1, 0), x.time(1, 1), x.time(1, 2)}, 6, 6, 23);
        Due.sentence(0, "TIME of the street: of all EAVES likewise.");
        Due.row("of all", new long[] {x.hour(0), x.hour(1), x.hour(2)}, 7, 0, 23);
        IcicleClock y = Due.street(HEAD + "day thaw 1;eave sun 1;eave sun 1;icicle at 1 length 1 hour 8;icicle at 0 length 1 hour 9;");
        Due.due("the icicle's number, not the eave's", y.hour(0), 9);
        IcicleClock z = Due.street(HEAD + "day thaw 1;day thaw 1;eave sun 1;icicle at 0 length 2 hour 8;icicle at 0 length 1 hour 9;");
        Due.row("the later day, not the number", new long[] {z.time(0, 0), z.time(0, 1), z.hour(1)}, 9, 8, 8);
    }

    private static void time(IcicleClock x) {
        Due.sentence(18, "NONE: none FELL; -2: there are none such.");
        Due.row("none fell", new long[] {x.time(2, 0), x.time(2, 2)}, -1, -1);
        IcicleClock later = Due.street(HEAD + "day thaw 1;day thaw 1;eave sun 1;icicle at 0 length 2 hour 0;");
        Due.row("none yet; hour 0", new long[] {later.time(0, 0), later.time(0, 1)}, -1, 0);
        for (int k : FAR) {
            Due.row("none such " + k, new long[] {x.time(k, 0), x.time(0, k)}, -2, -2);
        }
        Due.row("beyond the last", new long[] {x.time(3, 0), x.time(0, 3)}, -2, -2);
    }

    private static void hour(IcicleClock x) {
        Due.sentence(19, "NONE: none FELL; -2: there is none such.");
        IcicleClock later = Due.street(HEAD + "day thaw 1;day thaw 1;eave sun 1;icicle at 0 length 2 hour 0;");
        Due.row("none yet; hour 0; no icicle", new long[] {later.hour(0), later.hour(1), Due.street(HEAD + "day thaw 1;").hour(0)},
            -1, 0, -1);
        for (int k : FAR) {
            Due.due("none such " + k, x.hour(k), -2);
        }
        Due.row("beyond the last", new long[] {x.hour(3), Due.street(HEAD).hour(0)}, -2, -2);
    }

    private static void meet(IcicleClock x) {
        Due.sentence(20, "(or one twice) tell one TIME, as bits (none told is none). -2: there are none such.");
        Due.row("two, one twice, none told", new long[] {x.meet(0, 1), x.meet(0, 0), x.meet(1, 1), x.meet(2, 2), x.meet(0, 2)},
            0, 7, 7, 0, 0);
        for (int k : FAR) {
            Due.row("none such " + k, new long[] {x.meet(k, 0), x.meet(0, k), x.meet(k, k)}, -2, -2, -2);
        }
        Due.row("beyond the last", new long[] {x.meet(3, 0), x.meet(0, 3)}, -2, -2);
        IcicleClock all = Due.street(HEAD + "day thaw 1;".repeat(14) + "eave sun 1;eave sun 1;icicle at 0 length 1 hour 0;"
            + "icicle at 1 length 1 hour 0;");
        Due.due("on all 14 days", all.meet(0, 1), 16383);
        IcicleClock last = Due.street(HEAD + "day thaw 1;".repeat(14) + "eave sun 1;eave sun 1;icicle at 0 length 1 hour 0;"
            + "icicle at 1 length 14 hour 0;");
        Due.row("on the last", new long[] {last.meet(0, 1), last.meet(1, 0)}, 8192, 8192);
        Due.row("no day", new long[] {Due.street(HEAD + "eave sun 1;").meet(0, 0)}, 0);
    }

    private static void apart(IcicleClock x) {
        Due.sentence(21, "(none told is none). NONE: on none both tell one; -2 likewise.");
        Due.row("on day 1", new long[] {x.apart(0, 1), x.apart(1, 0), x.apart(0, 0)}, 6, 6, 0);
        Due.row("none told", new long[] {x.apart(0, 2), x.apart(2, 0), x.apart(2, 2)}, -1, -1, -1);
        for (int k : FAR) {
            Due.row("none such " + k, new long[] {x.apart(k, 0), x.apart(0, k)}, -2, -2);
        }
        Due.row("beyond the last, no day", new long[] {x.apart(3, 0), x.apart(0, 3), Due.street(HEAD + "eave sun 1;").apart(0, 0)},
            -2, -2, -1);
    }

    private static void shorterWayRound() {
        Due.sentence(21, "The most HOURS that two EAVES are apart on any DAY, the shorter way round of 24");
        for (int one = 0; one < 24; one++) {
            for (int two = 0; two < 24; two++) {
                IcicleClock x = Due.street(HEAD + "day thaw 1;eave sun 1;eave sun 1;icicle at 0 length 1 hour " + one
                    + ";icicle at 1 length 1 hour " + two + ";");
                int steps = 0;
                while ((one + steps) % 24 != two && (two + steps) % 24 != one) {
                    steps++;
                }
                Due.due("of " + one + " and " + two, x.apart(0, 1), steps);
            }
        }
    }

    private static void tells(IcicleClock x) {
        Due.sentence(32, "(0 .. 23; TIME, III), as bits. -2: there is none such, no STREET.");
        Due.row("hours", new long[] {x.tells(0), x.tells(7), x.tells(23), x.tells(6)}, 2, 1, 4, 0);
        Due.row("none such", new long[] {x.tells(-1), x.tells(24), x.tells(Integer.MAX_VALUE), x.tells(Integer.MIN_VALUE)},
            -2, -2, -2, -2);
        Due.row("no day; no street", new long[] {Due.street(HEAD).tells(0), Due.street(HEAD).tells(24),
            new IcicleClock().tells(0), new IcicleClock().tells(24)}, 0, -2, -2, -2);
        IcicleClock none = Due.street(HEAD + "day frost 1;eave sun 1;icicle at 0 length 1 hour 0;");
        Due.due("none told is not hour 0", none.tells(0), 0);
    }

    private static void metByTheFirst() {
        Due.sentence(0, "A WORK is met by the first ICICLE of its HOUR (by number).");
        IcicleClock x = Due.street(WINTER + "due hour 1 on 4;");
        Due.due("icicle 0, not icicle 3", x.late(0), -4);
        IcicleClock y = Due.street(HEAD + "day thaw 1;eave sun 0;eave sun 1;icicle at 0 length 1 hour 1;icicle at 1 length 1 hour 1;"
            + "due hour 1 on 0;");
        Due.due("icicle 0, though it never falls", y.late(0), 99);
        Due.sentence(0, "below 0: early; if it never FALLS, or there is none, by 99");
        IcicleClock z = Due.street(WINTER + "due hour 3 on 0;due hour 3 on 13;due hour 4 on 0;due hour 4 on 13;");
        Due.row("by 99 from any day", new long[] {z.late(0), z.late(1), z.late(2), z.late(3)}, 99, 99, 99, 99);
    }

    private static void late() {
        Due.sentence(22, "in DAYS (below 0: early). -1,000: there is none such.");
        IcicleClock x = Due.street(WINTER + "due hour 1 on 13;due hour 2 on 0;due hour 2 on 13;due hour 2 on 12;");
        Due.row("early, late, neither", new long[] {x.late(0), x.late(1), x.late(2), x.late(3)}, -13, 13, 0, 1);
        for (int k : FAR) {
            Due.due("none such " + k, x.late(k), -1000);
        }
        Due.row("beyond the last, none", new long[] {x.late(4), Due.street(HEAD).late(0)}, -1000, -1000);
    }

    private static void lates() {
        Due.sentence(23, "WORKS that are LATE (1 on), as bits. -2: there is no STREET.");
        IcicleClock x = Due.street(WINTER + "due hour 1 on 1;due hour 2 on 13;due hour 2 on 12;due hour 2 on 0;due hour 3 on 0;"
            + "due hour 4 on 13;");
        Due.row("not -1, not 0; 1, 13, 99", new long[] {x.late(0), x.late(1), x.late(2), x.lates()}, -1, 0, 1, 4 + 8 + 16 + 32);
        Due.row("no work, no street", new long[] {Due.street(WINTER).lates(), Due.street(HEAD).lates(),
            new IcicleClock().lates()}, 0, 0, -2);
        Due.due("all six", Due.street(WINTER + "due hour 4 on 0;".repeat(6)).lates(), 63);
    }

    private static void off() {
        Due.sentence(24, "LATE of all WORKS, early ones as above 0, together. -2 likewise.");
        IcicleClock x = Due.street(WINTER + "due hour 1 on 13;due hour 2 on 0;due hour 2 on 13;");
        Due.due("13 early and 13 late", x.off(), 26);
        Due.row("no work, no street", new long[] {Due.street(WINTER).off(), Due.street(HEAD).off(), new IcicleClock().off()},
            0, 0, -2);
        Due.due("the most", Due.street(WINTER + "due hour 4 on 0;".repeat(6)).off(), 594);
    }

    private static void worst() {
        Due.sentence(25, "The WORK that is farthest off so, the first of several, if any is off. NONE: none; -2 likewise.");
        IcicleClock x = Due.street(WINTER + "due hour 2 on 13;due hour 1 on 13;due hour 2 on 0;");
        Due.due("early as far as late", x.worst(), 1);
        IcicleClock y = Due.street(WINTER + "due hour 2 on 12;due hour 1 on 2;due hour 1 on 0;");
        Due.due("farther early than late", y.worst(), 1);
        IcicleClock z = Due.street(WINTER + "due hour 1 on 13;due hour 4 on 0;due hour 3 on 0;");
        Due.due("99, the first", z.worst(), 1);
        Due.row("one day late; one day early", new long[] {Due.street(WINTER + "due hour 2 on 12;").worst(),
            Due.street(WINTER + "due hour 1 on 0;due hour 1 on 1;").worst()}, 0, 1);
        Due.row("none is off, no work, no street", new long[] {Due.street(WINTER + "due hour 1 on 0;").worst(),
            Due.street(WINTER).worst(), Due.street(HEAD).worst(), new IcicleClock().worst()}, -1, -1, -1, -2);
    }
}
