/** Promises 37 to 46: who slammed, what weather it was, and chances. */
public final class SeenTest {
    /** Two days, two eaves; what is lost: eave 0: 1, 2; eave 1: 2, 4. A door takes 3. */
    private static final String TWO = "street slam 3 bell 5 odds 5;day thaw 1;day thaw 1;eave sun 1;eave sun 2;"
        + "icicle at 0 length 4 hour 1;icicle at 0 length 5 hour 2;icicle at 1 length 5 hour 3;";

    public static void main(String[] args) {
        slams();
        ask();
        slamsRefused();
        weathers();
        warmestWeather();
        weathersWithoutDays();
        weathersRefused();
        chances();
        warmByOdds();
        likely();
        Due.finish();
    }

    /** By a door at (0,0): icicle 0 on 0, 1 on 1; at (0,1): 0 on 1, 1 on 1; at (1,0): 2 on 0; at (1,1): 2 on 1. */
    private static void slams() {
        IcicleClock x = Due.street(TWO);
        x.row(0, 1, 0);
        Due.row("nothing seen", new long[] {x.slams(0), x.slam(0), x.calm(0)}, 4, 0, 1);
        Due.see(x, 0, 0, 0);
        Due.row("icicle 0 on 0", new long[] {x.slams(0), x.slam(0), x.calm(0)}, 1, 0, 0);
        Due.see(x, 0, 1, 1);
        Due.row("icicle 1 on 1", new long[] {x.slams(0), x.slam(0), x.calm(0)}, 2, 0, 0);
        Due.see(x, 0, 1, 1, 0, 1);
        Due.row("and 0 on 1", new long[] {x.slams(0), x.slam(0), x.calm(0)}, 1, 1, 0);
        Due.see(x, 0, 0, -1, 1, -1);
        Due.row("neither falls", new long[] {x.slams(0), x.slam(0), x.calm(0)}, 2, 100, 1);
        Due.see(x, 0, 2, 1);
        Due.row("icicle 2 on 1", new long[] {x.slams(0), x.slam(0), x.calm(0)}, 1, 101, 0);
        Due.see(x, 0, 0, 1, 2, 1);
        Due.row("none fits", new long[] {x.slams(0), x.slam(0), x.calm(0), x.ask(0)}, 0, -1, 0, -1);
        Due.see(x, 0, 0, 0, 0, 1);
        Due.row("one on two days", new long[] {x.slams(0), x.slam(0), x.calm(0)}, 0, -1, 0);
        Due.due("a door more", x.door(1, 1), 1);
        Due.see(x, 0, 2, 1);
        Due.row("acts are done, too", new long[] {x.slams(0), x.slam(0), x.calm(0)}, 3, 0, 1);
        Due.due("asking slams nothing", x.count(7), 1);
        Due.due("nor fells", x.falls(0), -1);
    }

    private static void ask() {
        IcicleClock x = Due.street(TWO);
        x.row(0, 1, 0);
        Due.due("of four, icicle 0 leaves two, icicle 1 two, icicle 2 two", x.ask(0), 0);
        Due.see(x, 0, 0, -1);
        Due.due("of two, icicle 0 leaves both, icicle 2 one", x.ask(0), 2);
        Due.see(x, 0, 2, 1);
        Due.due("of one there is none fewer", x.ask(0), -1);
        IcicleClock y = Due.street("street slam 9 bell 5 odds 5;day thaw 0;day thaw 0;day thaw 0;eave sun 1;eave sun 0;"
            + "icicle at 1 length 99 hour 1;icicle at 1 length 10 hour 2;icicle at 1 length 9 hour 3;icicle at 1 length 8 hour 3;");
        y.row(0, 1, 0);
        Due.due("the first of several that know more", y.ask(0), 2);
    }

    private static void slamsRefused() {
        IcicleClock x = Due.street(TWO);
        Due.row("no such slot", new long[] {x.slams(-1), x.slam(4), x.calm(-1), x.ask(4)}, -2, -2, -2, -2);
        Due.row("nothing there", new long[] {x.slams(0), x.slam(1), x.calm(2), x.ask(3)}, -6, -6, -6, -6);
        Due.see(x, 0, 0);
        Due.row("not two each", new long[] {x.slams(0), x.slam(0), x.calm(0), x.ask(0)}, -2, -2, -2, -2);
        Due.see(x, 0, 3, 0);
        Due.row("no such icicle", new long[] {x.slams(0), x.slam(0), x.calm(0), x.ask(0)}, -2, -2, -2, -2);
        Due.see(x, 0, -1, 0);
        Due.row("no such icicle below", new long[] {x.slams(0), x.calm(0)}, -2, -2);
        Due.see(x, 0, 0, 2);
        Due.row("no such day", new long[] {x.slams(0), x.slam(0), x.calm(0), x.ask(0)}, -2, -2, -2, -2);
        Due.see(x, 0, 0, -2);
        Due.row("no such day below", new long[] {x.slams(0), x.ask(0)}, -2, -2);
        Due.see(x, 0, 0, 0, 0, 1, 9, 0);
        Due.due("a wrong one behind ones that can't fit", x.slams(0), -2);
        x.row(1, 3, 2);
        x.write(1, 0, 1L << 32);
        Due.due("a long is no icicle", x.slams(1), -2);
        IcicleClock none = new IcicleClock();
        Due.row("no street is asked ahead of nothing there", new long[] {none.slams(0), none.calm(0)}, -2, -2);
    }

    /** Icicle 0: sums of 4 at least, 1: of 5, 2 (sun 2, length 5): of 3. */
    private static void weathers() {
        IcicleClock x = Due.street(TWO);
        x.row(0, 0, 0);
        Due.row("nothing seen", new long[] {x.weathers(0, 1), x.weathers(0, 5), x.weather(0, 5, 4), x.warmth(0, 5, 0),
            x.warmth(0, 5, 1)}, 4, 1024, 0, 0, 15);
        Due.see(x, 0, 2, 0);
        Due.row("icicle 2 on 0", new long[] {x.weathers(0, 2), x.weather(0, 2, 0), x.weather(0, 2, 1), x.warmth(0, 2, 0),
            x.warmth(0, 2, 1)}, 4, 3, 0, 3, 6);
        Due.see(x, 0, 0, 1, 1, -1);
        Due.row("a sum of 4 on 1", new long[] {x.weathers(0, 2), x.weather(0, 2, 0), x.weather(0, 2, 1), x.warmth(0, 2, 0),
            x.warmth(0, 2, 1)}, 3, 1, 3, 4, 4);
        Due.see(x, 0, 0, 0);
        Due.row("none fits", new long[] {x.weathers(0, 2), x.weather(0, 2, 0), x.warmth(0, 2, 0), x.warmth(0, 2, 1)}, 0, -1, -1, -1);
        Due.see(x, 0, 2, 0, 2, 1);
        Due.row("one on two days", new long[] {x.weathers(0, 2), x.weather(0, 2, 1), x.warmth(0, 2, 1)}, 0, -1, -1);
        Due.see(x, 0, 2, 0, 2, -1);
        Due.row("and never, of one day", new long[] {x.weathers(0, 1), x.warmth(0, 1, 0), x.warmth(0, 1, 1)}, 0, -1, -1);
        x.ring(0);
        x.door(0, 0);
        Due.see(x, 0, 0, 1, 1, -1);
        Due.due("acts aside", x.weathers(0, 2), 3);
        x.anew();
        x.hung(1, 4);
        Due.due("by the length at which it is hung", x.weathers(0, 2), 0);
    }

    private static void warmestWeather() {
        IcicleClock x = Due.street("street slam 0 bell 0 odds 0;" + "day frost 1;".repeat(5) + "eave sun 1;eave sun 4;"
            + "icicle at 0 length 15 hour 1;icicle at 1 length 57 hour 1;icicle at 0 length 16 hour 1;icicle at 1 length 56 hour 1;");
        Due.see(x, 0, 0, 4);
        Due.row("all threes", new long[] {x.weathers(0, 5), x.weather(0, 5, 0), x.weather(0, 5, 4), x.warmth(0, 5, 0),
            x.warmth(0, 5, 1)}, 1, 3, 3, 15, 15);
        Due.see(x, 0, 1, 4);
        Due.row("57 by fours needs 15, too", new long[] {x.weathers(0, 5), x.warmth(0, 5, 0)}, 1, 15);
        Due.see(x, 0, 3, 4);
        Due.row("56 by fours needs 14", new long[] {x.weathers(0, 5), x.weather(0, 5, 0), x.warmth(0, 5, 0), x.warmth(0, 5, 1)},
            6, 2, 14, 15);
        Due.see(x, 0, 2, 4);
        Due.row("16 is beyond", new long[] {x.weathers(0, 5), x.weather(0, 5, 0), x.warmth(0, 5, 1)}, 0, -1, -1);
    }

    private static void weathersWithoutDays() {
        IcicleClock x = Due.street("street slam 3 bell 2 odds 5;eave sun 2;eave sun 0;icicle at 0 length 5 hour 1;"
            + "icicle at 1 length 1 hour 1;");
        Due.see(x, 0, 0, -1, 1, -1);
        Due.row("n days alone", new long[] {x.weathers(0, 1), x.weathers(0, 2), x.weather(0, 2, 1), x.warmth(0, 2, 1),
            x.slams(0), x.calm(0)}, 3, 6, 0, 2, 0, 1);
        Due.see(x, 0, 0, 0);
        Due.due("a day that is not told", x.slams(0), -2);
    }

    private static void weathersRefused() {
        IcicleClock x = Due.street(TWO);
        Due.row("nothing there", new long[] {x.weathers(0, 1), x.weather(0, 1, 0), x.warmth(0, 1, 0)}, -6, -6, -6);
        Due.row("no such n ahead of it", new long[] {x.weathers(0, 0), x.weathers(0, 6), x.weather(0, 6, 0), x.warmth(0, 0, 0)},
            -2, -2, -2, -2);
        Due.row("no such day of n ahead of it", new long[] {x.weather(0, 1, 1), x.weather(0, 1, -1)}, -2, -2);
        Due.row("no such what ahead of it", new long[] {x.warmth(0, 1, 2), x.warmth(0, 1, -1)}, -2, -2);
        Due.row("no such slot", new long[] {x.weathers(4, 1), x.weather(-1, 1, 0), x.warmth(4, 1, 0)}, -2, -2, -2);
        Due.see(x, 0, 0, 1);
        Due.row("days n or later", new long[] {x.weathers(0, 1), x.weather(0, 1, 0), x.warmth(0, 1, 0), x.weathers(0, 2)},
            -2, -2, -2, 6);
        Due.see(x, 0, 0, 0, 1);
        Due.row("not two each", new long[] {x.weathers(0, 2), x.weather(0, 2, 0), x.warmth(0, 2, 0)}, -2, -2, -2);
        Due.see(x, 0, 3, 0);
        Due.due("no such icicle", x.weathers(0, 2), -2);
        Due.due("no street", new IcicleClock().weathers(0, 1), -2);
    }

    /** Eave 1 loses 6, 3, 15, 15, 30 in sum, and 3 more for each warm day of thaw (days 0, 2, 3, 4). */
    private static void chances() {
        IcicleClock x = Due.street("street slam 3 bell 2 odds 5;day thaw 2;day frost 3;day thaw 4;day thaw 0;day thaw 5;"
            + "eave sun 1;eave sun 3;eave sun 0;icicle at 1 length 20 hour 12;icicle at 1 length 6 hour 9;"
            + "icicle at 2 length 4 hour 6;");
        Due.row("icicle 0", new long[] {x.chance(0, 0, 0), x.chance(0, 0, 1), x.chance(0, 2, 0), x.chance(0, 2, 1),
            x.chance(0, 3, 0), x.chance(0, 3, 1), x.chance(0, 4, 0), x.chance(0, 4, 1)}, 0, 1, 1, 4, 1, 4, 1, 2);
        Due.row("icicle 1", new long[] {x.chance(1, 0, 0), x.chance(1, 0, 1), x.chance(1, 1, 0), x.chance(1, 1, 1)}, 1, 1, 0, 1);
        Due.row("icicle 2", new long[] {x.chance(2, 4, 0), x.chance(2, 4, 1)}, 0, 1);
        Due.row("likely", new long[] {x.likely(0), x.likely(1), x.likely(2)}, 4, 0, -1);
        Due.row("surest", new long[] {x.surest(0, 0), x.surest(0, 1), x.surest(0, 2), x.surest(0, 3), x.surest(2, 0)},
            1, -1, 10, 19, -1);
        x.door(1, 2);
        Due.row("acts are done, too", new long[] {x.chance(0, 2, 0), x.chance(0, 2, 1)}, 3, 4);
    }

    private static void warmByOdds() {
        String tail = "day thaw 0;eave sun 1;icicle at 0 length 1 hour 1;";
        IcicleClock x = Due.street("street slam 3 bell 2 odds 4;" + tail);
        Due.row("thaw 0 is a day of thaw", new long[] {x.chance(0, 0, 0), x.chance(0, 0, 1), x.likely(0)}, 2, 5, -1);
        Due.tell(x, "street slam 3 bell 2 odds 0;" + tail);
        Due.row("never warm", new long[] {x.chance(0, 0, 0), x.chance(0, 0, 1), x.likely(0)}, 0, 1, -1);
        Due.tell(x, "street slam 3 bell 2 odds 10;" + tail);
        Due.row("always warm", new long[] {x.chance(0, 0, 0), x.chance(0, 0, 1), x.likely(0)}, 1, 1, 0);
        Due.tell(x, "street slam 3 bell 2 odds 10;day frost 0;eave sun 1;icicle at 0 length 1 hour 1;");
        Due.row("frost 0 is not", new long[] {x.chance(0, 0, 0), x.chance(0, 0, 1), x.surest(0, 0)}, 0, 1, -1);
        Due.tell(x, "street slam 3 bell 2 odds 3;" + "day thaw 0;".repeat(14) + "eave sun 1;icicle at 0 length 14 hour 1;"
            + "icicle at 0 length 13 hour 1;");
        Due.row("three to the fourteenth in ten to it", new long[] {x.chance(0, 13, 0), x.chance(0, 13, 1)},
            4782969L, 100000000000000L);
        Due.row("13 ways to have one cold day of the first 13", new long[] {x.chance(1, 13, 0), x.chance(1, 13, 1)},
            13L * 7 * 1594323, 100000000000000L);
    }

    private static void likely() {
        IcicleClock x = Due.street("street slam 3 bell 2 odds 5;day thaw 0;eave sun 1;icicle at 0 length 1 hour 1;");
        Due.due("never is as likely", x.likely(0), -1);
        Due.tell(x, "street slam 3 bell 2 odds 5;day thaw 0;day thaw 1;eave sun 1;icicle at 0 length 1 hour 1;");
        Due.due("the first of several", x.likely(0), 0);
        Due.tell(x, "street slam 3 bell 2 odds 6;day thaw 0;day thaw 0;eave sun 1;icicle at 0 length 1 hour 1;");
        Due.due("on day 0 by 6 in 10, never by 16 in 100", x.likely(0), 0);
        Due.tell(x, "street slam 3 bell 2 odds 6;day frost 0;day frost 0;eave sun 1;icicle at 0 length 3 hour 1;");
        x.door(0, 1);
        Due.due("surely, without any day of thaw", x.likely(0), 1);
    }
}
