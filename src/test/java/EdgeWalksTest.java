/** The edges of Terms VII and VIII and of promises 47 to 51, sentence by sentence. */
public final class EdgeWalksTest {
    private static final int NONE = IcicleClock.NONE;
    private static final String HEAD = "street slam 3 bell 2 odds 5;";

    public static void main(String[] args) {
        sameOrBeside();
        asOftenAsOneFalls();
        noWalk();
        walksOfADay();
        waysAtMost();
        ownSun();
        noneToldIsNone();
        neitherHasMore();
        restNone();
        Due.finish();
    }

    private static void sameOrBeside() {
        Due.sentence(0, "each DAY under one EAVE, to the next DAY under the same or one beside it (by numbers)");
        StringBuilder text = new StringBuilder(HEAD + "day thaw 1;day thaw 1;" + "eave sun 1;".repeat(5));
        for (int eave = 0; eave < 4; eave++) {
            text.append("icicle at ").append(eave).append(" length 1 hour 1;");
            text.append("icicle at ").append(eave + 1).append(" length 2 hour 1;");
        }
        IcicleClock x = Due.street(text.toString());
        Due.row("from 4 there is no step to 0", new long[] {x.walk(), x.walks(0), x.walks(1), x.ways()}, 1, 0, 0, 4);
        IcicleClock two = Due.street(HEAD + "day thaw 1;day thaw 1;eave sun 1;eave sun 1;eave sun 1;icicle at 1 length 1 hour 1;"
            + "icicle at 2 length 1 hour 1;icicle at 0 length 2 hour 1;icicle at 1 length 2 hour 1;");
        Due.row("nor from 0 to 2", new long[] {two.walk(), two.walks(0), two.walks(1), two.ways()}, 1, 0, 0, 4);
    }

    private static void asOftenAsOneFalls() {
        Due.sentence(0, "STRUCK: as often as an ICICLE FALLS there that DAY.");
        IcicleClock x = Due.street(HEAD + "day thaw 1;eave sun 1;" + "icicle at 0 length 1 hour 1;".repeat(8));
        Due.row("eight at once", new long[] {x.walk(), x.walks(0), x.ways()}, 8, 0, 1);
        IcicleClock y = Due.street(HEAD + "day thaw 1;day thaw 1;eave sun 1;icicle at 0 length 1 hour 1;icicle at 0 length 2 hour 1;");
        Due.row("one each day", new long[] {y.walk(), y.ways()}, 2, 1);
        IcicleClock z = Due.street(HEAD + "day thaw 1;day thaw 1;eave sun 1;eave sun 1;icicle at 0 length 1 hour 1;"
            + "icicle at 1 length 1 hour 1;icicle at 0 length 2 hour 1;");
        Due.row("struck once, then not", new long[] {z.walk(), z.walks(0), z.walks(1), z.ways()}, 1, 0, 1, 2);
    }

    private static void noWalk() {
        IcicleClock none = new IcicleClock();
        IcicleClock days = Due.street(HEAD + "day thaw 1;");
        IcicleClock eaves = Due.street(HEAD + "eave sun 1;");
        Due.sentence(47, "the least STRUCK. -2: there is no STREET, no EAVE, no DAY.");
        Due.row("walk", new long[] {none.walk(), days.walk(), eaves.walk(), Due.street(HEAD).walk()}, -2, -2, -2, -2);
        Due.sentence(48, "-2: there is none such, no EAVE.");
        Due.row("walks", new long[] {none.walks(0), days.walks(0), eaves.walks(0), Due.street(HEAD).walks(0)}, -2, -2, -2, -2);
        Due.sentence(49, "-2 as walk().");
        Due.row("ways", new long[] {none.ways(), days.ways(), eaves.ways(), Due.street(HEAD).ways()}, -2, -2, -2, -2);
        IcicleClock one = Due.street(HEAD + "day thaw 1;eave sun 1;");
        Due.row("one day, one eave", new long[] {one.walk(), one.walks(0), one.ways()}, 0, 0, 1);
    }

    private static void walksOfADay() {
        Due.sentence(48, "The EAVE of a DAY by the first such WALK (the least row).");
        IcicleClock x = Due.street(HEAD + "day thaw 1;".repeat(3) + "eave sun 1;".repeat(3) + "icicle at 0 length 3 hour 1;");
        Due.row("0, 0, 1", new long[] {x.walk(), x.walks(0), x.walks(1), x.walks(2)}, 0, 0, 0, 1);
        int[] wrong = {-1, 3, 14, Integer.MAX_VALUE, Integer.MIN_VALUE};
        for (int day : wrong) {
            Due.due("walks(" + day + ")", x.walks(day), -2);
        }
        fromTheLast();
        IcicleClock full = Due.street(HEAD + "day thaw 0;".repeat(14) + "eave sun 1;".repeat(5) + "icicle at 4 length 1 hour 1;");
        Due.row("the last day, none behind it", new long[] {full.walks(13), full.walks(14)}, 0, -2);
    }

    /** On day 0 all but eave k are struck, on day 1 all but the one beside it: each walk is the only one. */
    private static void fromTheLast() {
        for (int step = -1; step <= 1; step++) {
            for (int free = Math.max(0, -step); free < 5 && free + step < 5; free++) {
                StringBuilder text = new StringBuilder(HEAD + "day thaw 1;day thaw 1;" + "eave sun 1;".repeat(5));
                for (int eave = 0; eave < 5; eave++) {
                    text.append(eave == free ? "" : "icicle at " + eave + " length 1 hour 1;");
                }
                for (int eave = Math.max(0, free - 1); eave <= free + 1 && eave < 5; eave++) {
                    text.append(eave == free + step ? "" : "icicle at " + eave + " length 2 hour 1;");
                }
                Due.row("on the second day, from " + free, new long[] {Due.street(text.toString()).walks(1)}, free + step);
                IcicleClock x = Due.street(text.toString());
                Due.row("from " + free + " by " + step, new long[] {x.walks(0), x.walk(), x.ways(), x.walks(1)}, free, 0, 1, free + step);
            }
        }
    }

    private static int walksFrom(int eave, int daysLeft, int eaves) {
        if (eave < 0 || eave >= eaves) {
            return 0;
        }
        return daysLeft == 0 ? 1 : walksFrom(eave - 1, daysLeft - 1, eaves) + walksFrom(eave, daysLeft - 1, eaves)
            + walksFrom(eave + 1, daysLeft - 1, eaves);
    }

    private static void waysAtMost() {
        Due.sentence(49, "How many WALKS are so.");
        for (int eaves = 1; eaves <= 5; eaves++) {
            IcicleClock x = Due.street(HEAD + "day thaw 1;".repeat(14) + "eave sun 1;".repeat(eaves));
            int all = 0;
            for (int eave = 0; eave < eaves; eave++) {
                all += walksFrom(eave, 13, eaves);
            }
            Due.due("all of 14 days and eaves " + eaves, x.ways(), all);
        }
    }

    private static void ownSun() {
        Due.sentence(0, "the sun of his own EAVE more; the second as many on which they do not, and the sun of his own.");
        IcicleClock x = Due.street(HEAD + "eave sun 0;eave sun 0;eave sun 0;eave sun 0;eave sun 4;");
        Due.row("no day: the sunniest for both", new long[] {x.rests(), x.rest()}, 1, 44);
        IcicleClock one = Due.street(HEAD + "day thaw 1;eave sun 0;eave sun 1;icicle at 0 length 1 hour 1;icicle at 1 length 1 hour 1;");
        Due.row("the second has a day at 0, the sun at 1", new long[] {one.rests(), one.rest()}, 2, 10);
    }

    private static void noneToldIsNone() {
        Due.sentence(0, "on which both tell one TIME (none told is none)");
        IcicleClock x = Due.street(HEAD + "day thaw 0;eave sun 2;eave sun 2;icicle at 0 length 9 hour 1;icicle at 1 length 9 hour 1;");
        Due.row("none told: no days of one time", new long[] {x.meet(0, 1), x.rests(), x.rest()}, 0, 4, 0);
        IcicleClock told = Due.street(HEAD + "day thaw 1;eave sun 1;eave sun 0;icicle at 0 length 1 hour 1;");
        Due.row("the second would leave 0 for a day, but for its sun", new long[] {told.rests(), told.rest()}, 2, 0);
    }

    private static void neitherHasMore() {
        Due.sentence(0, "REST: neither has more by another EAVE alone.");
        Due.sentence(50, "pairs of EAVES at REST: how many. -2: there is no STREET.");
        IcicleClock all = Due.street(HEAD + "day thaw 1;".repeat(14) + "eave sun 3;".repeat(5));
        Due.row("as much is not more", new long[] {all.rests(), all.rest()}, 25, 0);
        IcicleClock one = Due.street(HEAD + "eave sun 3;");
        Due.row("one eave", new long[] {one.rests(), one.rest()}, 1, 0);
        Due.row("no eave; no street", new long[] {Due.street(HEAD).rests(), new IcicleClock().rests()}, 0, -2);
    }

    private static void restNone() {
        Due.sentence(51, "10 times the first one's and the second one's. NONE: none; -2 likewise.");
        IcicleClock x = Due.street(HEAD + "day thaw 1;eave sun 1;eave sun 1;icicle at 0 length 1 hour 6;icicle at 1 length 1 hour 7;");
        Due.row("one goes after, one away", new long[] {x.rests(), x.rest()}, 0, NONE);
        IcicleClock y = Due.street(HEAD + "day thaw 1;eave sun 1;eave sun 4;icicle at 0 length 1 hour 6;icicle at 1 length 1 hour 7;");
        Due.row("the sunnier one", new long[] {y.rests(), y.rest()}, 1, 11);
        Due.row("no eave; no street", new long[] {Due.street(HEAD).rest(), new IcicleClock().rest()}, NONE, -2);
    }
}
