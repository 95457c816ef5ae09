/**
 * The document from its first line to its last: the ordinary sentences, quoted (Due.sentence) and held to one street
 * that is reckoned by hand; the sentences that name an edge are the Edge tests'. What eaves lose, day by day in sum:
 * eave 0: 6, 8, 6, 18; eave 1: 3, 4, 2, 8; eave 2: 12, 16, 14, 38; eave 3: 0, 0, -2, -2. So icicle 0 falls on day 0,
 * icicle 1 on day 1, icicles 2 and 3 on day 3, icicle 4 never.
 */
public final class DocumentTest {
    private static final String HEAD = "street slam 4 bell 1 odds 5;";
    private static final String TEXT = HEAD + "day thaw 3;day thaw 1;day frost 2;day thaw 6;"
        + "eave sun 2;eave sun 1;eave sun 4;eave sun 0;"
        + "icicle at 0 length 6 hour 5;icicle at 1 length 4 hour 20;icicle at 2 length 30 hour 5;"
        + "icicle at 0 length 10 hour 2;icicle at 3 length 3 hour 11;"
        + "due hour 20 on 2;due hour 2 on 0;due hour 5 on 3;due hour 11 on 1;";

    public static void main(String[] args) {
        fiveHundredAndTwelve();
        lines();
        faults();
        told();
        melting();
        times();
        works();
        hungOtherwise();
        round();
        slammed();
        weathers();
        warm();
        walks();
        clerks();
        draws();
        acts();
        hungAndGoneBackTo();
        Due.finish();
    }

    /** The street is told by some twenty calls; doors are slammed and taken back until the 511th call. */
    private static void fiveHundredAndTwelve() {
        IcicleClock x = new IcicleClock();
        Due.feedText(x, TEXT);
        int calls = (TEXT.length() + 19) / 20 + 1;
        Due.due("lines", x.street(), 18);
        calls++;
        boolean slammed = false;
        while (calls < 510) {
            Due.due("call " + calls, slammed ? x.undo() : x.door(0, 1), slammed ? 0 : 1);
            slammed = !slammed;
            calls++;
        }
        Due.due("the 511th call", x.falls(3), slammed ? 1 : 3);
        Due.due("the 512th call", x.count(7), slammed ? 1 : 0);
    }

    private static void lines() {
        Due.sentence(0, "I. STREET: {LINE ;}. LINE: street slam N bell N odds N | day thaw N | day frost N | eave sun N "
            + "| icicle at E length N hour N | due hour N on D.");
        IcicleClock x = new IcicleClock();
        Due.due("how many lines", Due.tell(x, TEXT), 18);
        Due.row("days", new long[] {x.day(0), x.day(1), x.day(2), x.day(3)}, 3, 1, -2, 6);
        Due.row("eaves by what a thaw of 3 melts", new long[] {x.melt(0, 0), x.melt(1, 0), x.melt(2, 0), x.melt(3, 0)}, 6, 3, 12, 0);
        Due.row("icicle 1", new long[] {x.icicle(1, 0), x.icicle(1, 1), x.icicle(1, 2)}, 1, 4, 20);
        Due.row("work 2", new long[] {x.work(2, 0), x.work(2, 1)}, 5, 3);
        for (String word : new String[] {"slam", "bell", "odds", "thaw", "frost", "sun", "at", "length", "hour", "on"}) {
            int place = TEXT.indexOf(" " + word + " ") + 1;
            String gone = TEXT.substring(0, place) + TEXT.substring(place + word.length() + 1);
            faulty("without its " + word, gone, 1, place);
        }
        faulty("without ;", HEAD + "day thaw 3 day thaw 1;", 1, 39);
        faulty("; twice", HEAD + ";", 1, 28);
        Due.sentence(0, "icicle: E an EAVE told ahead, length 1 .. 99, HOUR 0 .. 23");
        faulty("an eave behind", HEAD + "eave sun 1;icicle at 1 length 9 hour 5;eave sun 1;", 2, 49);
    }

    private static void faulty(String name, String text, int fault, int place) {
        IcicleClock x = new IcicleClock();
        Due.row(name, new long[] {Due.tell(x, text), x.fault(0), x.fault(1)}, -4, fault, place);
    }

    private static void faults() {
        Due.sentence(0, "FAULTS, the first by its place (a TOKEN's first byte; the end's), of one place the least: "
            + "1 a TOKEN that is none, or can't stand there");
        faulty("a sign that is none", HEAD + "day thaw 3:", 1, 38);
        faulty("a great letter", "Street slam 4 bell 1 odds 5;", 1, 0);
        faulty("a word that is none", HEAD + "night thaw 3;", 1, 28);
        faulty("a number for a word", HEAD + "day 3;", 1, 32);
        faulty("a word for a number", HEAD + "day thaw thaw;", 1, 37);
        faulty("a sign for a number", HEAD + "day thaw ;", 1, 37);
        faulty("the end for a number", HEAD + "day thaw", 1, 36);
        Due.sentence(0, "2 a number out of its bounds, not as said.");
        faulty("a thaw of 10", HEAD + "day thaw 10;", 2, 37);
        faulty("a day that is not told", HEAD + "day thaw 1;due hour 5 on 1;", 2, 53);
        faulty("the first of two", HEAD + "day thaw 10;eave sun 5;", 2, 37);
    }

    private static void told() {
        IcicleClock x = Due.street(TEXT);
        Due.sentence(6, "What of a DAY: its thaw");
        Due.row("days", new long[] {x.day(0), x.day(1), x.day(2), x.day(3)}, 3, 1, -2, 6);
        Due.sentence(8, "Of an ICICLE, what 0: its EAVE, 1: length as told, 2: HOUR.");
        Due.row("icicle 2", new long[] {x.icicle(2, 0), x.icicle(2, 1), x.icicle(2, 2)}, 2, 30, 5);
        Due.row("icicle 3", new long[] {x.icicle(3, 0), x.icicle(3, 1), x.icicle(3, 2)}, 0, 10, 2);
        Due.sentence(9, "Of a WORK, what 0: its HOUR, 1: DAY.");
        Due.row("works", new long[] {x.work(0, 0), x.work(0, 1), x.work(3, 0), x.work(3, 1)}, 20, 2, 11, 1);
        Due.sentence(10, "ICICLES of an EAVE, as bits.");
        Due.row("eaves", new long[] {x.eave(0), x.eave(1), x.eave(2), x.eave(3)}, 9, 2, 4, 16);
        Due.sentence(59, "0 slam, 1 bell, 2 odds, 3 DAYS, 4 EAVES, 5 ICICLES, 6 WORKS, 7 acts, 8 LINES, 9 bytes of the TAPE, "
            + "10 SLOTS that have a row.");
        x.ring(0);
        x.ring(1);
        x.feed(0, 0, 0, 0, 0);
        x.row(3, 0, 0);
        long[] counts = new long[11];
        for (int what = 0; what < 11; what++) {
            counts[what] = x.count(what);
        }
        Due.row("counts", counts, 4, 1, 5, 4, 4, 5, 4, 2, 18, 20, 1);
    }

    private static void melting() {
        IcicleClock x = Due.street(TEXT);
        Due.sentence(0, "II. MELT of a DAY at an EAVE: thaw times its sun; of frost 0 less that, wherever (it grows).");
        Due.row("melt of day 3", new long[] {x.melt(0, 3), x.melt(1, 3), x.melt(2, 3), x.melt(3, 3)}, 12, 6, 24, 0);
        Due.row("melt of frost", new long[] {x.melt(0, 2), x.melt(1, 2), x.melt(2, 2), x.melt(3, 2)}, -2, -2, -2, -2);
        Due.sentence(0, "On a DAY its length is less by the MELT, and slam for each door slammed at its EAVE that DAY, "
            + "and bell for each bell rung that DAY");
        Due.row("icicle 2", new long[] {x.length(2, 0), x.length(2, 1), x.length(2, 2), x.length(2, 3)}, 18, 14, 16, 0);
        Due.row("icicle 3", new long[] {x.length(3, 0), x.length(3, 1), x.length(3, 2), x.length(3, 3)}, 4, 2, 4, 0);
        Due.row("icicle 4", new long[] {x.length(4, 0), x.length(4, 1), x.length(4, 2), x.length(4, 3)}, 3, 3, 5, 5);
        Due.row("falls", new long[] {x.falls(0), x.falls(1), x.falls(2), x.falls(3), x.falls(4)}, 0, 1, 3, 3, -1);
        Due.row("longest", new long[] {x.longest(0), x.longest(1), x.longest(2), x.longest(3), x.longest(4)}, 6, 4, 30, 10, 5);
        Due.row("drops", new long[] {x.drops(0), x.drops(1), x.drops(2), x.drops(3)}, 1, 2, 0, 12);
        Due.row("hang", new long[] {x.hang(0), x.hang(1), x.hang(2), x.hang(3)}, 30, 28, 28, 16);
        Due.row("under", new long[] {x.under(0), x.under(1), x.under(2), x.under(3)}, 9, 2, 8, 0);
        Due.row("rush, barest", new long[] {x.rush(), x.barest()}, 3, 0);
        Due.row("next", new long[] {x.next(0, 0), x.next(0, 3), x.next(1, 0), x.next(1, 1), x.next(2, 0)}, 3, -1, 1, -1, 3);
        x.door(2, 1);
        x.door(2, 1);
        x.ring(1);
        Due.row("icicle 2, two doors and a bell later", new long[] {x.length(2, 0), x.length(2, 1), x.length(2, 2)}, 18, 5, 7);
        Due.row("icicle 3, by the bell", new long[] {x.length(3, 0), x.length(3, 1), x.length(3, 2)}, 4, 1, 3);
    }

    private static void times() {
        IcicleClock x = Due.street(TEXT);
        Due.sentence(0, "III. TIME of an EAVE on a DAY: the HOUR of the ICICLE that FELL there last by that DAY");
        Due.sentence(18, "TIME (III) of an EAVE on a DAY.");
        Due.row("at 0", new long[] {x.time(0, 0), x.time(0, 1), x.time(0, 2), x.time(0, 3)}, 5, 5, 5, 2);
        Due.row("at 1", new long[] {x.time(1, 0), x.time(1, 1), x.time(1, 2), x.time(1, 3)}, -1, 20, 20, 20);
        Due.row("at 2", new long[] {x.time(2, 0), x.time(2, 1), x.time(2, 2), x.time(2, 3)}, -1, -1, -1, 5);
        Due.sentence(19, "TIME of the street on a DAY.");
        Due.row("of the street", new long[] {x.hour(0), x.hour(1), x.hour(2), x.hour(3)}, 5, 20, 20, 2);
        Due.sentence(20, "DAYS on which two EAVES (or one twice) tell one TIME, as bits");
        Due.row("one twice", new long[] {x.meet(0, 0), x.meet(1, 1), x.meet(2, 2), x.meet(3, 3)}, 15, 14, 8, 0);
        Due.row("two", new long[] {x.meet(0, 1), x.meet(0, 2), x.meet(1, 2)}, 0, 0, 0);
        IcicleClock y = Due.street(TEXT.replace("hour 20", "hour 5"));
        Due.row("two of one hour", new long[] {y.meet(0, 1), y.meet(1, 0), y.meet(1, 2), y.meet(0, 2)}, 6, 6, 8, 0);
        Due.sentence(21, "The most HOURS that two EAVES are apart on any DAY, the shorter way round of 24");
        Due.row("apart", new long[] {x.apart(0, 1), x.apart(0, 2), x.apart(1, 2), x.apart(0, 0), x.apart(0, 3)}, 9, 3, 9, 0, -1);
        Due.sentence(32, "DAYS on which the street tells an HOUR");
        Due.row("tells", new long[] {x.tells(5), x.tells(20), x.tells(2), x.tells(11)}, 1, 6, 8, 0);
    }

    private static void works() {
        IcicleClock x = Due.street(TEXT);
        Due.sentence(0, "IV. A WORK is met by the first ICICLE of its HOUR (by number). It is LATE by as many DAYS as that FALLS "
            + "behind its DAY; below 0: early");
        Due.sentence(22, "LATE (IV) of a WORK, in DAYS (below 0: early).");
        Due.row("late", new long[] {x.late(0), x.late(1), x.late(2), x.late(3)}, -1, 3, -3, 99);
        Due.sentence(23, "WORKS that are LATE (1 on), as bits.");
        Due.due("lates()", x.lates(), 10);
        Due.sentence(24, "LATE of all WORKS, early ones as above 0, together.");
        Due.due("off()", x.off(), 106);
        Due.sentence(25, "The WORK that is farthest off so");
        Due.due("worst()", x.worst(), 3);
    }

    private static void hungOtherwise() {
        IcicleClock x = Due.street(TEXT);
        Due.sentence(26, "The least length (1 .. 99) by which an ICICLE FALLS on a DAY, all else as it is.");
        Due.row("size", new long[] {x.size(3, 0), x.size(3, 1), x.size(3, 2), x.size(3, 3)}, 1, 7, -1, 9);
        Due.sentence(27, "How many lengths (1 .. 99) do so.");
        Due.row("sizes", new long[] {x.sizes(3, 0), x.sizes(3, 1), x.sizes(3, 2), x.sizes(3, 3)}, 6, 2, 0, 10);
        Due.sentence(28, "The EAVE at which it FALLS on the DAY nearest to a DAY, the first of several.");
        Due.row("place", new long[] {x.place(1, 0), x.place(1, 1), x.place(1, 3), x.place(4, 3), x.place(2, 0)}, 0, 1, 1, 0, 2);
        Due.sentence(29, "The length (1 .. 99) of an ICICLE by which off() is least, the least of several.");
        Due.row("best", new long[] {x.best(0), x.best(1), x.best(2), x.best(3), x.best(4)}, 9, 4, 1, 1, 1);
        Due.sentence(30, "That off().");
        Due.row("offs", new long[] {x.offs(0), x.offs(1), x.offs(2), x.offs(3), x.offs(4)}, 103, 106, 106, 103, 106);
        Due.sentence(31, "The fewest doors (0 .. 20) slammed at its EAVE on a DAY, besides those there are, by which an ICICLE FALLS "
            + "by that DAY.");
        Due.row("doors", new long[] {x.doors(4, 1), x.doors(2, 0), x.doors(2, 2), x.doors(2, 3), x.doors(0, 0)}, 1, 5, 4, 0, 0);
    }

    private static void round() {
        IcicleClock x = Due.street(TEXT);
        Due.sentence(35, "ROUND: the least sum of steps (from an EAVE to another one the difference of their numbers) of a way from an "
            + "EAVE to all of a set (bits), by any order.");
        Due.row("round", new long[] {x.round(1, 13), x.round(0, 8), x.round(2, 3), x.round(2, 11), x.round(3, 15)}, 4, 3, 2, 4, 3);
        Due.sentence(36, "EAVE i (from 0) of the set by the first such order (the least row).");
        Due.row("rounds", new long[] {x.rounds(1, 13, 0), x.rounds(1, 13, 1), x.rounds(1, 13, 2)}, 0, 2, 3);
        Due.row("rounds by the nearer end", new long[] {x.rounds(2, 11, 0), x.rounds(2, 11, 1), x.rounds(2, 11, 2)}, 3, 1, 0);
    }

    /**
     * A door at eave 0 on days 0 to 3 brings icicle 3 down on that day; one at eave 1 on day 0 icicle 1; one at eave 3 on
     * day 0 or 1 icicle 4, later none: it is longer then. No other is felt.
     */
    private static void slammed() {
        IcicleClock x = Due.street(TEXT);
        Due.sentence(0, "V. SLAM: one door more at an EAVE on a DAY. A SLOT's row, two numbers each: an ICICLE, the DAY on which it was "
            + "seen to FALL (NONE: never).");
        Due.sentence(37, "SLAMS (V) that fit: pairs of an EAVE and a DAY by which all FALL as a SLOT's row tells: how many.");
        Due.see(x, 0, 4, 1);
        Due.see(x, 1, 4, -1);
        Due.see(x, 2, 0, 0, 3, 2);
        Due.see(x, 3, 2, 2);
        Due.row("slams", new long[] {x.slams(0), x.slams(1), x.slams(2), x.slams(3)}, 1, 14, 1, 0);
        Due.sentence(38, "The first such pair (EAVE, then DAY): 100 times the EAVE and the DAY.");
        Due.row("slam", new long[] {x.slam(0), x.slam(1), x.slam(2), x.slam(3)}, 301, 0, 2, -1);
        Due.sentence(39, "1 if all FALL so without one, else 0.");
        Due.row("calm", new long[] {x.calm(0), x.calm(1), x.calm(2), x.calm(3)}, 0, 1, 0, 0);
        Due.sentence(40, "The ICICLE of which to know when it FALLS leaves fewest of these SLAMS at worst, if fewer than now");
        Due.row("ask: 11 of 14 leave icicle 3 as it was", new long[] {x.ask(0), x.ask(1), x.ask(2), x.ask(3)}, -1, 3, -1, -1);
    }

    /** Icicle 0 falls on day 1 if the first thaw is below 3 and both together are not: 0 3, 1 2, 1 3, 2 1, 2 2, 2 3. */
    private static void weathers() {
        IcicleClock x = Due.street(TEXT);
        Due.see(x, 0, 0, 1);
        Due.sentence(41, "WEATHERS (V) of n DAYS that fit it: how many.");
        Due.row("weathers", new long[] {x.weathers(0, 2), x.weathers(0, 3), x.weathers(0, 4)}, 6, 24, 96);
        Due.sentence(42, "Thaw of a DAY of the first such (the least row).");
        Due.row("weather", new long[] {x.weather(0, 2, 0), x.weather(0, 2, 1), x.weather(0, 3, 2)}, 0, 3, 0);
        Due.sentence(43, "The least (what 0), the greatest (1) sum of thaws of these.");
        Due.row("warmth", new long[] {x.warmth(0, 2, 0), x.warmth(0, 2, 1), x.warmth(0, 3, 1)}, 3, 5, 8);
    }

    /** Icicle 1 loses 3 or 4 on day 0, then 1 or 2; a length of 5 falls on day 1 by three of the four. */
    private static void warm() {
        IcicleClock x = Due.street(TEXT);
        Due.sentence(0, "VI. WARM: each DAY of thaw is warm with odds in ten, by itself: its thaw is then one more.");
        Due.sentence(44, "The chance (VI) that an ICICLE FALLS on a DAY, above (what 0), below (1).");
        Due.row("above", new long[] {x.chance(1, 0, 0), x.chance(1, 1, 0), x.chance(1, 2, 0), x.chance(0, 0, 0)}, 1, 1, 0, 1);
        Due.row("below", new long[] {x.chance(1, 0, 1), x.chance(1, 1, 1), x.chance(1, 2, 1), x.chance(0, 0, 1)}, 2, 2, 1, 1);
        x.hung(1, 5);
        Due.row("of length 5 on day 1", new long[] {x.chance(1, 0, 0), x.chance(1, 1, 0), x.chance(1, 1, 1)}, 0, 3, 4);
        Due.row("of length 5 on day 3", new long[] {x.chance(1, 3, 0), x.chance(1, 3, 1)}, 1, 4);
        Due.sentence(45, "The likeliest DAY");
        Due.row("likely", new long[] {x.likely(0), x.likely(1), x.likely(4)}, 0, 1, -1);
        Due.sentence(46, "The length (1 .. 99) by which the chance that it FALLS on a DAY is greatest");
        Due.row("surest", new long[] {x.surest(1, 0), x.surest(1, 1), x.surest(1, 2)}, 1, 5, -1);
    }

    /** Unstruck are 1, 2, 3 on day 0; 0, 2, 3 on day 1; all on day 2; 1 and 3 on day 3. */
    private static void walks() {
        IcicleClock x = Due.street(TEXT);
        Due.sentence(0, "VII. WALK: DAY by DAY from 0 to the last, each DAY under one EAVE, to the next DAY under the same or one beside it "
            + "(by numbers).");
        Due.sentence(47, "WALK (VII): the least STRUCK.");
        Due.due("walk()", x.walk(), 0);
        Due.sentence(48, "The EAVE of a DAY by the first such WALK (the least row).");
        Due.row("walks", new long[] {x.walks(0), x.walks(1), x.walks(2), x.walks(3)}, 1, 0, 0, 1);
        Due.sentence(49, "How many WALKS are so.");
        Due.due("ways()", x.ways(), 20);
    }

    /** The second is best at 2 whatever the first does (8, 8, 7, 8), the first at 2 then (5). */
    private static void clerks() {
        IcicleClock x = Due.street(TEXT);
        Due.sentence(0, "VIII. CLERKS: each of two chooses an EAVE; the first has as many DAYS on which both tell one TIME (none told is none) "
            + "and the sun of his own EAVE more; the second as many on which they do not, and the sun of his own.");
        Due.sentence(50, "CLERKS (VIII): pairs of EAVES at REST: how many.");
        Due.due("rests()", x.rests(), 1);
        Due.sentence(51, "The first such pair: 10 times the first one's and the second one's.");
        Due.due("rest()", x.rest(), 22);
        IcicleClock y = Due.street(TEXT.replace("eave sun 4", "eave sun 1"));
        Due.row("eave 2 in less sun tells nothing: the first is best at 0 then", new long[] {y.rests(), y.rest()}, 1, 2);
    }

    /** Draws from 5: 5, 7, 6, none below 5; from 2,000,000,000: 4, 3, 1, all below. */
    private static void draws() {
        IcicleClock x = Due.street(TEXT);
        Due.sentence(0, "DRAWS: x becomes (1103515245 x + 12345) modulo 2,147,483,648 (at first it is the seed); "
            + "a draw: x / 65536, cut, modulo 10. WINTER drawn: for each DAY of thaw a draw: below odds it is warm (acts are done, too).");
        Due.sentence(56, "WINTER drawn (IX) from a seed (0 .. 2,000,000,000), what 0: DAYS that are warm, as bits, 1: ICICLES that FALL by "
            + "the last DAY, as bits, 2: the TIME of the street on the last DAY");
        Due.row("from 5", new long[] {x.drawn(5, 0), x.drawn(5, 1), x.drawn(5, 2)}, 0, 15, 2);
        Due.row("from the greatest, icicle 3 falls on day 1",
            new long[] {x.drawn(2000000000, 0), x.drawn(2000000000, 1), x.drawn(2000000000, 2)}, 11, 15, 5);
        Due.sentence(57, "Of n (1 .. 20) such from seeds, the seed and 1, .., in how many an ICICLE FALLS by a DAY.");
        Due.row("luck", new long[] {x.luck(2000000000, 1, 3, 1), x.luck(5, 1, 3, 1), x.luck(5, 20, 3, 3), x.luck(5, 20, 4, 3)}, 1, 0, 20, 0);
    }

    private static void acts() {
        IcicleClock x = Due.street(TEXT);
        Due.sentence(52, "A door is slammed at an EAVE on a DAY: how many ICICLES FALL on that DAY at it then.");
        Due.row("door", new long[] {x.door(0, 1), x.falls(3), x.door(2, 3), x.door(0, 0), x.falls(3)}, 1, 1, 1, 2, 0);
        Due.sentence(53, "A bell is rung on a DAY: how many FALL on that DAY then.");
        Due.row("ring", new long[] {x.ring(0), x.falls(1), x.ring(3), x.ring(2)}, 3, 0, 1, 0);
        Due.sentence(54, "The latest act is taken back: how many there are.");
        Due.row("undo", new long[] {x.undo(), x.undo(), x.undo(), x.falls(1)}, 5, 4, 3, 1);
        Due.sentence(55, "All are: how many there were.");
        Due.row("anew", new long[] {x.anew(), x.count(7), x.falls(3)}, 3, 0, 3);
    }

    private static void hungAndGoneBackTo() {
        IcicleClock x = Due.street(TEXT);
        Due.sentence(60, "IMAGE k (0 .. 2) keeps the STREET, and acts: 0.");
        Due.due("image(2)", x.image(2), 0);
        Due.sentence(58, "An ICICLE is hung at a length of n (1 .. 99) from now on: at which it was.");
        Due.row("hung", new long[] {x.hung(1, 5), x.falls(1), x.late(0), x.hung(1, 1), x.falls(1)}, 4, 3, 1, 5, 0);
        Due.sentence(61, "It is as IMAGE k has it: 0.");
        Due.row("back", new long[] {x.back(2), x.falls(1), x.hung(1, 9)}, 0, 1, 4);
    }
}
