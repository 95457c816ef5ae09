/** Promises 47 to 51: who walks where unstruck, and two clerks' eaves at rest. */
public final class WalkTest {
    public static void main(String[] args) {
        walks();
        struck();
        manyWays();
        refused();
        rests();
        Due.finish();
    }

    /** One falls on day 0 at eave 1; on day 4 two fall at eave 0 and one at eave 1. */
    private static void walks() {
        IcicleClock x = Due.street("street slam 3 bell 2 odds 5;day thaw 2;day frost 3;day thaw 4;day thaw 0;day thaw 5;"
            + "eave sun 1;eave sun 3;eave sun 0;icicle at 0 length 7 hour 6;icicle at 1 length 6 hour 9;"
            + "icicle at 1 length 20 hour 12;icicle at 2 length 4 hour 6;icicle at 0 length 8 hour 23;");
        Due.due("walk()", x.walk(), 0);
        Due.row("walks", new long[] {x.walks(0), x.walks(1), x.walks(2), x.walks(3), x.walks(4)}, 0, 0, 0, 1, 2);
        Due.due("ways()", x.ways(), 17);
        Due.row("no such day", new long[] {x.walks(5), x.walks(-1)}, -2, -2);
        Due.due("rests(): the second goes from eave 1", x.rests(), 1);
        Due.due("rest()", x.rest(), 10);
    }

    /** On the one day two fall at eave 0, one at each of 1 and 2. */
    private static void struck() {
        IcicleClock x = Due.street("street slam 3 bell 2 odds 5;day thaw 1;eave sun 1;eave sun 1;eave sun 1;"
            + "icicle at 0 length 1 hour 6;icicle at 0 length 1 hour 6;icicle at 1 length 1 hour 6;icicle at 2 length 1 hour 6;");
        Due.row("one at least", new long[] {x.walk(), x.walks(0), x.ways()}, 1, 1, 2);
        IcicleClock y = Due.street("street slam 9 bell 2 odds 5;day thaw 0;day thaw 0;eave sun 1;eave sun 1;eave sun 1;eave sun 1;"
            + "icicle at 0 length 9 hour 6;icicle at 1 length 9 hour 6;icicle at 2 length 9 hour 6;icicle at 3 length 9 hour 6;");
        y.door(0, 1);
        y.door(1, 1);
        y.door(2, 1);
        y.door(3, 0);
        Due.row("beside alone", new long[] {y.walk(), y.walks(0), y.walks(1), y.ways()}, 0, 2, 3, 1);
        y.anew();
        y.door(0, 0);
        y.door(1, 0);
        y.door(3, 0);
        Due.row("not two down", new long[] {y.walk(), y.walks(0), y.walks(1), y.ways()}, 0, 2, 1, 3);
    }

    private static void manyWays() {
        IcicleClock x = Due.street("street slam 3 bell 2 odds 5;" + "day thaw 1;".repeat(3) + "eave sun 1;".repeat(3));
        Due.row("all walks", new long[] {x.walk(), x.walks(2), x.ways()}, 0, 0, 17);
        IcicleClock y = Due.street("street slam 3 bell 2 odds 5;" + "day thaw 1;".repeat(14) + "eave sun 1;");
        Due.row("one eave", new long[] {y.walk(), y.walks(13), y.ways()}, 0, 0, 1);
        IcicleClock z = Due.street("street slam 3 bell 2 odds 5;" + "day thaw 1;".repeat(14) + "eave sun 1;".repeat(2));
        Due.due("two to the fourteenth", z.ways(), 16384);
    }

    private static void refused() {
        IcicleClock none = new IcicleClock();
        Due.row("no street", new long[] {none.walk(), none.walks(0), none.ways(), none.rests(), none.rest()}, -2, -2, -2, -2, -2);
        IcicleClock days = Due.street("street slam 3 bell 2 odds 5;day thaw 1;");
        Due.row("no eave", new long[] {days.walk(), days.walks(0), days.ways(), days.rests(), days.rest()}, -2, -2, -2, 0, -1);
        IcicleClock eaves = Due.street("street slam 3 bell 2 odds 5;eave sun 1;eave sun 2;");
        Due.row("no day", new long[] {eaves.walk(), eaves.walks(0), eaves.ways(), eaves.rests(), eaves.rest()}, -2, -2, -2, 1, 11);
    }

    private static void rests() {
        String head = "street slam 3 bell 2 odds 5;day thaw 1;";
        IcicleClock x = Due.street(head + "eave sun 1;eave sun 1;icicle at 0 length 1 hour 6;icicle at 1 length 1 hour 7;");
        Due.row("one goes after, one away", new long[] {x.rests(), x.rest()}, 0, -1);
        IcicleClock y = Due.street(head + "eave sun 1;eave sun 1;icicle at 0 length 1 hour 6;icicle at 1 length 1 hour 6;");
        Due.row("all one hour", new long[] {y.rests(), y.rest()}, 4, 0);
        IcicleClock z = Due.street(head + "eave sun 1;eave sun 1;icicle at 0 length 9 hour 6;icicle at 1 length 9 hour 6;");
        Due.row("none told is none", new long[] {z.rests(), z.rest()}, 4, 0);
        IcicleClock sun = Due.street(head + "eave sun 1;eave sun 4;eave sun 4;icicle at 0 length 9 hour 6;");
        Due.row("by the sun alone", new long[] {sun.rests(), sun.rest()}, 4, 11);
    }
}
