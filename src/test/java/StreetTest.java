/**
 * Promises 6 to 36 on one street whose winter can be reckoned by hand. What eaves lose, day by day in
 * sum: eave 0: 2, -1, 3, 3, 8; eave 1: 6, 3, 15, 15, 30; eave 2: 0, -3, -3, -3, -3.
 */
public final class StreetTest {
    private static final String TEXT = "street slam 3 bell 2 odds 5;"
        + "day thaw 2;day frost 3;day thaw 4;day thaw 0;day thaw 5;eave sun 1;eave sun 3;eave sun 0;"
        + "icicle at 0 length 7 hour 6;icicle at 1 length 6 hour 9;icicle at 1 length 20 hour 12;"
        + "icicle at 2 length 4 hour 6;icicle at 0 length 8 hour 23;"
        + "due hour 6 on 4;due hour 9 on 2;due hour 12 on 1;due hour 3 on 0;";
    private static final int[] WRONG = {-1, -2, 14, 99, Integer.MAX_VALUE, Integer.MIN_VALUE};

    public static void main(String[] args) {
        IcicleClock x = Due.street(TEXT);
        told(x);
        falls(x);
        falling(x);
        times(x);
        works(x);
        sizes(x);
        places(x);
        best(x);
        doors(x);
        rounds(x);
        wrongOnes(x);
        firstBeyond(x);
        longestLength();
        edges();
        Due.finish();
    }

    private static void told(IcicleClock x) {
        Due.row("day", new long[] {x.day(0), x.day(1), x.day(2), x.day(3), x.day(4)}, 2, -3, 4, 0, 5);
        Due.row("melt at 1", new long[] {x.melt(1, 0), x.melt(1, 1), x.melt(1, 2), x.melt(1, 3)}, 6, -3, 12, 0);
        Due.row("melt at 2", new long[] {x.melt(2, 0), x.melt(2, 1), x.melt(2, 4)}, 0, -3, 0);
        Due.row("icicle 2", new long[] {x.icicle(2, 0), x.icicle(2, 1), x.icicle(2, 2)}, 1, 20, 12);
        Due.row("icicle 4", new long[] {x.icicle(4, 0), x.icicle(4, 1), x.icicle(4, 2)}, 0, 8, 23);
        Due.row("work 1", new long[] {x.work(1, 0), x.work(1, 1)}, 9, 2);
        Due.row("eaves", new long[] {x.eave(0), x.eave(1), x.eave(2)}, 17, 6, 8);
        Due.row("counts", new long[] {x.count(0), x.count(1), x.count(2), x.count(3), x.count(4), x.count(5), x.count(6),
            x.count(7), x.count(8), x.count(9), x.count(10), x.count(11), x.count(-1)},
            3, 2, 5, 5, 3, 5, 4, 0, 18, 0, 0, -1, -1);
    }

    private static void falls(IcicleClock x) {
        Due.row("falls", new long[] {x.falls(0), x.falls(1), x.falls(2), x.falls(3), x.falls(4)}, 4, 0, 4, -1, 4);
        int[][] lengths = {{5, 8, 4, 4, 0}, {0, 0, 0, 0, 0}, {14, 17, 5, 5, 0}, {4, 7, 7, 7, 7}, {6, 9, 5, 5, 0}};
        for (int icicle = 0; icicle < 5; icicle++) {
            for (int day = 0; day < 5; day++) {
                Due.due("length(" + icicle + ", " + day + ")", x.length(icicle, day), lengths[icicle][day]);
            }
        }
        Due.row("longest", new long[] {x.longest(0), x.longest(1), x.longest(2), x.longest(3), x.longest(4)}, 8, 6, 20, 7, 9);
    }

    private static void falling(IcicleClock x) {
        Due.row("drops", new long[] {x.drops(0), x.drops(1), x.drops(2), x.drops(3), x.drops(4)}, 2, 0, 0, 0, 21);
        Due.row("hang", new long[] {x.hang(0), x.hang(1), x.hang(3), x.hang(4)}, 29, 29, 29, 8);
        Due.row("under", new long[] {x.under(0), x.under(1), x.under(2)}, 16, 17, 0);
        Due.due("rush()", x.rush(), 4);
        Due.row("next", new long[] {x.next(0, 0), x.next(1, 0), x.next(1, 3), x.next(1, 4), x.next(2, 0)}, 4, 4, 4, -1, -1);
        Due.due("barest(): 0 and 1 have two each", x.barest(), 0);
    }

    private static void times(IcicleClock x) {
        Due.row("time at 0", new long[] {x.time(0, 0), x.time(0, 3), x.time(0, 4)}, -1, -1, 23);
        Due.row("time at 1", new long[] {x.time(1, 0), x.time(1, 3), x.time(1, 4)}, 9, 9, 12);
        Due.due("time at 2", x.time(2, 4), -1);
        Due.row("hour", new long[] {x.hour(0), x.hour(3), x.hour(4)}, 9, 9, 23);
        Due.row("meet", new long[] {x.meet(0, 1), x.meet(1, 1), x.meet(0, 0), x.meet(2, 2), x.meet(0, 2)}, 0, 31, 16, 0, 0);
        Due.row("apart", new long[] {x.apart(0, 1), x.apart(1, 0), x.apart(0, 2), x.apart(1, 1)}, 11, 11, -1, 0);
        Due.row("tells", new long[] {x.tells(9), x.tells(23), x.tells(12), x.tells(0), x.tells(24), x.tells(-1)},
            15, 16, 0, 0, -2, -2);
    }

    private static void works(IcicleClock x) {
        Due.row("late", new long[] {x.late(0), x.late(1), x.late(2), x.late(3)}, 0, -2, 3, 99);
        Due.due("lates()", x.lates(), 12);
        Due.due("off()", x.off(), 104);
        Due.due("worst()", x.worst(), 3);
    }

    private static void sizes(IcicleClock x) {
        Due.row("size at 1", new long[] {x.size(1, 0), x.size(1, 1), x.size(2, 2), x.size(2, 3), x.size(2, 4)}, 1, -1, 7, -1, 16);
        Due.row("sizes at 1", new long[] {x.sizes(1, 0), x.sizes(1, 1), x.sizes(2, 2), x.sizes(2, 3), x.sizes(2, 4)}, 6, 0, 9, 0, 15);
        Due.row("at 2", new long[] {x.size(3, 0), x.sizes(3, 0), x.size(3, 4), x.sizes(3, 4)}, -1, 0, -1, 0);
    }

    private static void places(IcicleClock x) {
        Due.row("place", new long[] {x.place(0, 0), x.place(0, 4), x.place(0, 3), x.place(3, 2), x.place(3, 1)}, 1, 0, 0, 0, 1);
    }

    private static void best(IcicleClock x) {
        Due.row("best", new long[] {x.best(0), x.best(1), x.best(2), x.best(3), x.best(4)}, 4, 7, 1, 1, 1);
        Due.row("offs", new long[] {x.offs(0), x.offs(1), x.offs(2), x.offs(3), x.offs(4)}, 104, 102, 102, 104, 104);
        Due.due("nothing is changed by asking", x.off(), 104);
        Due.due("nor the length", x.longest(1), 6);
    }

    private static void doors(IcicleClock x) {
        Due.row("doors", new long[] {x.doors(0, 0), x.doors(0, 1), x.doors(0, 4), x.doors(1, 3), x.doors(3, 1), x.doors(2, 0)},
            2, 3, 0, 0, 3, 5);
        IcicleClock y = Due.street("street slam 3 bell 0 odds 0;day thaw 0;eave sun 1;icicle at 0 length 60 hour 1;"
            + "icicle at 0 length 61 hour 1;");
        Due.row("doors at the end", new long[] {y.doors(0, 0), y.doors(1, 0)}, 20, -1);
        IcicleClock z = Due.street("street slam 0 bell 0 odds 0;day thaw 0;eave sun 1;icicle at 0 length 1 hour 1;");
        Due.due("doors that take nothing", z.doors(0, 0), -1);
    }

    private static void rounds(IcicleClock x) {
        Due.row("round", new long[] {x.round(0, 0), x.round(2, 0), x.round(1, 5), x.round(0, 6), x.round(2, 7), x.round(1, 7),
            x.round(1, 2)}, 0, 0, 3, 2, 2, 3, 0);
        Due.row("rounds from 1 of 0, 2", new long[] {x.rounds(1, 5, 0), x.rounds(1, 5, 1), x.rounds(1, 5, 2), x.rounds(1, 5, -1)},
            0, 2, -1, -1);
        Due.row("rounds from 2 of all", new long[] {x.rounds(2, 7, 0), x.rounds(2, 7, 1), x.rounds(2, 7, 2), x.rounds(2, 7, 3)},
            2, 1, 0, -1);
        Due.row("rounds from 1 of all", new long[] {x.rounds(1, 7, 0), x.rounds(1, 7, 1), x.rounds(1, 7, 2)}, 0, 1, 2);
        Due.row("rounds of none", new long[] {x.rounds(0, 0, 0)}, -1);
        Due.row("no such round", new long[] {x.round(3, 0), x.round(-1, 0), x.round(0, 8), x.round(0, -1), x.rounds(3, 0, 9),
            x.rounds(0, 8, 0), x.rounds(0, Integer.MIN_VALUE, 0)}, -2, -2, -2, -2, -2, -2, -2);
        IcicleClock y = Due.street("street slam 0 bell 0 odds 0;" + "eave sun 1;".repeat(5));
        Due.row("from 3 of 0, 2, 3, 4", new long[] {y.round(3, 29), y.rounds(3, 29, 0), y.rounds(3, 29, 1), y.rounds(3, 29, 2),
            y.rounds(3, 29, 3)}, 5, 3, 4, 2, 0);
        Due.due("from 1 of 1, 4", y.rounds(1, 18, 0), 1);
    }

    private static void wrongOnes(IcicleClock x) {
        for (int k : WRONG) {
            Due.row("wrong " + k, new long[] {x.day(k), x.melt(k, 0), x.melt(0, k), x.late(k)}, -1000, -1000, -1000, -1000);
            Due.row("none such " + k, new long[] {x.icicle(k, 0), x.work(k, 0), x.eave(k), x.falls(k), x.length(k, 0),
                x.length(0, k), x.longest(k), x.drops(k), x.hang(k), x.under(k), x.time(k, 0), x.time(0, k), x.hour(k),
                x.meet(k, 0), x.meet(0, k), x.apart(k, 0), x.apart(0, k), x.size(k, 0), x.size(0, k), x.sizes(k, 0),
                x.sizes(0, k), x.place(k, 0), x.place(0, k), x.best(k), x.offs(k), x.doors(k, 0), x.doors(0, k),
                x.next(k, 0), x.next(0, k), x.round(k, 0), x.likely(k), x.surest(k, 0), x.surest(0, k)},
                -2, -2, -2, -2, -2, -2, -2, -2, -2, -2, -2, -2, -2, -2, -2, -2, -2, -2, -2, -2, -2, -2, -2, -2, -2, -2,
                -2, -2, -2, -2, -2, -2, -2);
            Due.due("chance " + k, x.chance(k, 0, 0), -2);
            Due.due("chance of day " + k, x.chance(0, k, 1), -2);
            Due.due("chance what " + k, x.chance(0, 0, k), -2);
        }
        Due.row("whats", new long[] {x.icicle(0, 3), x.icicle(0, -1), x.work(0, 2), x.work(0, -1)}, -2, -2, -2, -2);
    }

    private static void firstBeyond(IcicleClock x) {
        Due.row("one beyond", new long[] {x.day(5), x.melt(3, 0), x.melt(0, 5), x.late(4)}, -1000, -1000, -1000, -1000);
        Due.row("one beyond, too", new long[] {x.icicle(5, 0), x.work(4, 0), x.eave(3), x.falls(5), x.length(0, 5), x.drops(5),
            x.hang(5), x.under(3), x.time(3, 0), x.hour(5), x.meet(0, 3), x.apart(3, 0), x.size(5, 0), x.sizes(0, 5),
            x.place(0, 5), x.best(5), x.offs(5), x.doors(5, 0), x.next(0, 5), x.longest(5)},
            -2, -2, -2, -2, -2, -2, -2, -2, -2, -2, -2, -2, -2, -2, -2, -2, -2, -2, -2, -2);
    }

    /** Seven doors of 14 take 98 on day 0, the thaw one more on day 1: only a length of 99 falls then. */
    private static void longestLength() {
        IcicleClock x = Due.street("street slam 14 bell 0 odds 0;day thaw 0;day thaw 1;eave sun 1;"
            + "icicle at 0 length 5 hour 1;due hour 1 on 1;");
        for (int door = 0; door < 7; door++) {
            x.door(0, 0);
        }
        Due.row("99 alone", new long[] {x.size(0, 1), x.sizes(0, 1), x.best(0), x.offs(0), x.surest(0, 1), x.size(0, 0), x.sizes(0, 0)},
            99, 1, 99, 0, 99, 1, 98);
        x.door(0, 0);
        Due.row("not even that", new long[] {x.size(0, 1), x.sizes(0, 1), x.best(0), x.offs(0), x.surest(0, 1), x.sizes(0, 0)},
            -1, 0, 1, 1, -1, 99);
    }

    private static void edges() {
        IcicleClock bare = Due.street("street slam 1 bell 1 odds 1;");
        Due.row("a street of one line", new long[] {bare.rush(), bare.lates(), bare.off(), bare.worst(), bare.tells(3),
            bare.barest(), bare.rests(), bare.rest(), bare.walk(), bare.ways(), bare.walks(0), bare.undo(), bare.anew()},
            -1, 0, 0, -1, 0, -1, 0, -1, -2, -2, -2, -5, 0);
        Due.row("winters of no day", new long[] {bare.drawn(5, 0), bare.drawn(5, 1), bare.drawn(5, 2)}, 0, 0, -1);
        IcicleClock still = Due.street("street slam 1 bell 1 odds 1;eave sun 1;icicle at 0 length 5 hour 3;");
        Due.row("an icicle without days", new long[] {still.falls(0), still.longest(0), still.under(0), still.likely(0),
            still.best(0), still.offs(0), still.round(0, 1), still.meet(0, 0), still.apart(0, 0)}, -1, 5, 0, -1, 1, 0, 0, 0, -1);
        IcicleClock late = Due.street("street slam 1 bell 1 odds 1;day thaw 1;day thaw 1;eave sun 4;eave sun 0;"
            + "icicle at 1 length 4 hour 3;icicle at 0 length 4 hour 3;due hour 3 on 1;due hour 4 on 0;due hour 4 on 1;");
        Due.row("the first of an hour, though it never falls", new long[] {late.late(0), late.late(1), late.late(2), late.off(),
            late.worst(), late.lates()}, 99, 99, 99, 297, 0, 7);
        IcicleClock round = Due.street("street slam 1 bell 1 odds 1;day thaw 1;day thaw 1;eave sun 1;eave sun 1;"
            + "icicle at 0 length 1 hour 23;icicle at 1 length 1 hour 0;icicle at 1 length 2 hour 11;");
        Due.row("the shorter way round", new long[] {round.apart(0, 1), round.time(1, 0), round.time(1, 1), round.rush()},
            12, 0, 11, 0);
        IcicleClock day = Due.street("street slam 1 bell 1 odds 1;day thaw 1;eave sun 1;eave sun 1;"
            + "icicle at 0 length 1 hour 23;icicle at 1 length 1 hour 1;");
        Due.row("by midnight", new long[] {day.apart(0, 1), day.hour(0), day.meet(0, 1)}, 2, 1, 0);
    }
}
