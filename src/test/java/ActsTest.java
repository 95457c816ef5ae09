/** Promises 52 to 61: acts, winters drawn, lengths hung anew, counts and images. */
public final class ActsTest {
    /** A door takes 3, a bell 2; eave 0 loses 1 and 1, eave 1 nothing and nothing. */
    private static final String TEXT = "street slam 3 bell 2 odds 5;day thaw 1;day thaw 1;eave sun 1;eave sun 0;"
        + "icicle at 0 length 4 hour 1;icicle at 0 length 6 hour 2;icicle at 1 length 3 hour 3;due hour 1 on 1;";

    public static void main(String[] args) {
        doorsAndBells();
        undone();
        fortyActs();
        refused();
        drawn();
        drawnByActs();
        luck();
        hung();
        images();
        imageOfNothing();
        Due.finish();
    }

    private static void doorsAndBells() {
        IcicleClock x = Due.street(TEXT);
        Due.row("at first", new long[] {x.falls(0), x.falls(1), x.falls(2), x.late(0)}, -1, -1, -1, 99);
        Due.due("door(0, 0)", x.door(0, 0), 1);
        Due.row("then", new long[] {x.falls(0), x.falls(1), x.length(1, 0), x.length(1, 1), x.falls(2), x.late(0), x.count(7)},
            0, -1, 2, 1, -1, -1, 1);
        Due.due("ring(1)", x.ring(1), 1);
        Due.row("then, too", new long[] {x.falls(1), x.falls(2), x.length(2, 1), x.hour(1), x.count(7)}, 1, -1, 1, 2, 2);
        Due.due("ring(1) again", x.ring(1), 2);
        Due.row("the third", new long[] {x.falls(2), x.hour(1), x.drops(1)}, 1, 3, 6);
        Due.due("a door counts its own eave alone", x.door(1, 1), 1);
        Due.due("a door ahead", x.door(1, 0), 1);
        Due.row("no more on 1 there", new long[] {x.falls(2), x.drops(1), x.door(1, 1)}, 0, 2, 0);
        Due.due("a bell counts all eaves", x.ring(0), 3);
    }

    private static void undone() {
        IcicleClock x = Due.street(TEXT);
        Due.row("none", new long[] {x.undo(), x.anew()}, -5, 0);
        x.door(0, 0);
        x.ring(1);
        x.ring(0);
        Due.row("two are left", new long[] {x.undo(), x.falls(0), x.falls(1), x.falls(2)}, 2, 0, 1, -1);
        Due.row("one is left", new long[] {x.undo(), x.falls(0), x.falls(1)}, 1, 0, -1);
        Due.row("none is left", new long[] {x.undo(), x.falls(0), x.undo(), x.count(7)}, 0, -1, -5, 0);
        x.ring(0);
        x.ring(0);
        x.door(0, 1);
        Due.row("anew", new long[] {x.anew(), x.count(7), x.falls(0), x.falls(1), x.undo()}, 3, 0, -1, -1, -5);
    }

    private static void fortyActs() {
        IcicleClock x = Due.street("street slam 1 bell 1 odds 0;day thaw 0;eave sun 1;icicle at 0 length 40 hour 1;");
        for (int act = 1; act <= 39; act++) {
            Due.due("act " + act, act % 2 == 0 ? x.ring(0) : x.door(0, 0), 0);
        }
        Due.due("act 40", x.ring(0), 1);
        Due.row("no more", new long[] {x.door(0, 0), x.ring(0), x.count(7)}, -5, -5, 40);
        Due.row("-2 is asked ahead", new long[] {x.door(1, 0), x.door(0, 1), x.ring(1), x.ring(-1)}, -2, -2, -2, -2);
        Due.row("after undo there is room", new long[] {x.undo(), x.falls(0), x.door(0, 0), x.door(0, 0)}, 39, -1, 1, -5);
        x.image(2);
        Due.row("forty gone back to", new long[] {x.anew(), x.falls(0), x.back(2), x.count(7), x.falls(0), x.ring(0)}, 40, -1, 0, 40, 0, -5);
    }

    private static void refused() {
        IcicleClock x = Due.street(TEXT);
        Due.row("none such", new long[] {x.door(2, 0), x.door(-1, 0), x.door(0, 2), x.door(0, -1), x.ring(2), x.ring(-1),
            x.ring(Integer.MAX_VALUE), x.door(Integer.MIN_VALUE, 0), x.count(7)}, -2, -2, -2, -2, -2, -2, -2, -2, 0);
        Due.row("hung", new long[] {x.hung(3, 5), x.hung(-1, 5), x.hung(0, 0), x.hung(0, 100), x.hung(0, -5)}, -2, -2, -2, -2, -2);
        Due.row("images", new long[] {x.image(3), x.image(-1), x.back(3), x.back(-1), x.back(0)}, -2, -2, -2, -2, -6);
        Due.row("drawn", new long[] {x.drawn(-1, 0), x.drawn(2000000001, 0), x.drawn(0, 3), x.drawn(0, -1)}, -2, -2, -2, -2);
        Due.row("luck", new long[] {x.luck(-1, 1, 0, 0), x.luck(2000000001, 1, 0, 0), x.luck(0, 0, 0, 0), x.luck(0, 21, 0, 0),
            x.luck(0, 1, 3, 0), x.luck(0, 1, -1, 0), x.luck(0, 1, 0, 2), x.luck(0, 1, 0, -1)}, -2, -2, -2, -2, -2, -2, -2, -2);
        IcicleClock none = new IcicleClock();
        Due.row("no street", new long[] {none.door(0, 0), none.ring(0), none.undo(), none.anew(), none.drawn(0, 0),
            none.luck(0, 1, 0, 0), none.hung(0, 1)}, -2, -2, -2, -2, -2, -2, -2);
    }

    /** Draws from 5: 5, 7, 6, 7; with odds 7 the first and the third are warm. */
    private static void drawn() {
        IcicleClock x = Due.street("street slam 3 bell 2 odds 7;day thaw 0;day frost 0;day thaw 0;day thaw 0;day thaw 0;"
            + "eave sun 1;icicle at 0 length 1 hour 4;icicle at 0 length 2 hour 5;icicle at 0 length 3 hour 7;");
        Due.row("from 5; frost has no draw", new long[] {x.drawn(5, 0), x.drawn(5, 1), x.drawn(5, 2)}, 9, 3, 5);
        Due.due("the street stays", x.falls(0), -1);
        Due.row("from 0 by 0, 8, 8, 7", new long[] {x.drawn(0, 0), x.drawn(0, 1), x.drawn(0, 2)}, 1, 1, 4);
        Due.row("from the greatest by 4, 3, 1, 7", new long[] {x.drawn(2000000000, 0), x.drawn(2000000000, 2)}, 13, 7);
        Due.tell(x, "street slam 3 bell 2 odds 10;day thaw 0;day frost 0;eave sun 1;icicle at 0 length 2 hour 4;");
        Due.row("always warm", new long[] {x.drawn(9, 0), x.drawn(9, 1), x.drawn(9, 2)}, 1, 0, -1);
        Due.tell(x, "street slam 3 bell 2 odds 0;day thaw 2;day frost 0;eave sun 1;icicle at 0 length 2 hour 4;");
        Due.row("never warm", new long[] {x.drawn(9, 0), x.drawn(9, 1), x.drawn(9, 2)}, 0, 1, 4);
    }

    private static int[] draws(long seed, int n) {
        int[] found = new int[n];
        long x = seed;
        for (int k = 0; k < n; k++) {
            x = (1103515245L * x + 12345L) & 0x7fffffffL;
            found[k] = (int) (x >> 16) % 10;
        }
        return found;
    }

    private static void drawnByActs() {
        IcicleClock x = Due.street("street slam 3 bell 2 odds 10;day thaw 0;eave sun 1;icicle at 0 length 4 hour 4;");
        Due.row("without", new long[] {x.drawn(0, 1), x.luck(0, 20, 0, 0)}, 0, 0);
        x.door(0, 0);
        Due.row("with a door", new long[] {x.drawn(0, 1), x.drawn(0, 2), x.luck(0, 20, 0, 0)}, 1, 4, 20);
    }

    private static void luck() {
        IcicleClock x = Due.street("street slam 3 bell 2 odds 4;day thaw 0;day thaw 0;eave sun 1;icicle at 0 length 1 hour 4;");
        int onFirst = 0;
        int byBoth = 0;
        for (long seed = 2000000000L; seed < 2000000020L; seed++) {
            int[] two = draws(seed, 2);
            onFirst += two[0] < 4 ? 1 : 0;
            byBoth += two[0] < 4 || two[1] < 4 ? 1 : 0;
        }
        Due.row("luck", new long[] {x.luck(2000000000, 20, 0, 0), x.luck(2000000000, 20, 0, 1)}, onFirst, byBoth);
        Due.due("of one", x.luck(7, 1, 0, 0), draws(7, 1)[0] < 4 ? 1 : 0);
    }

    private static void hung() {
        IcicleClock x = Due.street(TEXT);
        Due.row("hung", new long[] {x.hung(0, 2), x.falls(0), x.late(0), x.longest(0), x.hung(0, 1), x.falls(0)}, 4, 1, 0, 2, 2, 0);
        Due.due("the length as told stays", x.icicle(0, 1), 4);
        x.ring(0);
        Due.row("not by acts", new long[] {x.hung(0, 5), x.hung(0, 0), x.falls(0), x.undo(), x.hung(0, 99), x.falls(0)},
            -5, -2, 0, 0, 1, -1);
        Due.due("no act", x.count(7), 0);
        Due.due("anew leaves it", x.anew(), 0);
        Due.due("at 99", x.hung(0, 4), 99);
    }

    private static void images() {
        IcicleClock x = Due.street(TEXT);
        Due.due("image(0)", x.image(0), 0);
        x.hung(0, 2);
        Due.due("image(1)", x.image(1), 0);
        x.door(1, 0);
        x.ring(1);
        x.row(0, 1, 2);
        Due.due("image(2)", x.image(2), 0);
        Due.tell(x, "street slam 0 bell 0 odds 0;");
        x.feed(0, 0, 0, 0, 0);
        Due.row("back to 2", new long[] {x.back(2), x.count(7), x.falls(2), x.falls(0), x.count(8), x.count(0)}, 0, 2, 0, 1, 9, 3);
        Due.row("the tape and the slots are no part of it", new long[] {x.count(9), x.count(10)}, 20, 1);
        Due.row("acts go on", new long[] {x.undo(), x.falls(2), x.undo(), x.falls(2), x.undo()}, 1, 0, 0, -1, -5);
        Due.row("back to 1", new long[] {x.back(1), x.count(7), x.falls(0), x.hung(0, 9)}, 0, 0, 1, 2);
        Due.row("back to 0", new long[] {x.back(0), x.falls(0), x.hung(0, 9)}, 0, -1, 4);
        Due.row("an image stays as it was", new long[] {x.back(2), x.count(7), x.anew(), x.back(2), x.count(7)}, 0, 2, 2, 0, 2);
        Due.row("an image in place of another", new long[] {x.anew(), x.image(2), x.ring(0), x.back(2), x.count(7)}, 2, 0, 1, 0, 0);
    }

    private static void imageOfNothing() {
        IcicleClock x = new IcicleClock();
        Due.due("image(1) of no street", x.image(1), 0);
        Due.tell(x, TEXT);
        Due.row("back to none", new long[] {x.off(), x.back(1), x.off(), x.count(8), x.falls(0), x.back(0)}, 99, 0, -2, 0, -2, -6);
    }
}
