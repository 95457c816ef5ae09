import java.math.BigInteger;

/** The edges of Term I, of TOKENS and FAULTS, and of promises 1 to 5, sentence by sentence. */
public final class EdgeTextTest {
    private static final String HEAD = "street slam 3 bell 2 odds 5;";
    private static final String SMALL = HEAD + "day thaw 1;day frost 1;eave sun 1;icicle at 0 length 1 hour 1;due hour 1 on 1;";

    public static void main(String[] args) {
        firstLine();
        numbersOfLines();
        toldAhead();
        asTheyStand();
        everyByte();
        longestTokens();
        firstByPlace();
        ofOnePlaceTheLeast();
        placeOfTheEnd();
        tooManyAtTheWord();
        noStreet();
        feedBeyondThousand();
        feedHighestFirst();
        endOfWhatThereIs();
        endRefused();
        streetTakesTheTape();
        streetOfNothing();
        faultAllStays();
        faultOfTheLatest();
        Due.finish();
    }

    private static void faulty(String text, int fault, int place) {
        IcicleClock x = new IcicleClock();
        Due.row("of " + text, new long[] {Due.tell(x, text), x.fault(0), x.fault(1)}, -4, fault, place);
    }

    private static IcicleClock told(String text, int lines) {
        IcicleClock x = new IcicleClock();
        Due.row("of " + text, new long[] {Due.tell(x, text), x.fault(0), x.fault(1)}, lines, 0, -1);
        return x;
    }

    private static void firstLine() {
        Due.sentence(0, "street is the first LINE and no other");
        told(HEAD, 1);
        faulty(HEAD + HEAD, 1, 28);
        faulty(HEAD + "day thaw 1;" + HEAD, 1, 39);
        faulty("day thaw 1;" + HEAD, 1, 0);
        Due.sentence(0, "(street behind the first LINE, another word ahead of it)");
        faulty(HEAD + "street", 1, 28);
        faulty(" eave sun 1;", 1, 1);
        faulty("icicle", 1, 0);
        faulty("due", 1, 0);
    }

    private static void numbersOfLines() {
        Due.sentence(0, "slam, bell 0 .. 20, odds 0 .. 10");
        bounds("street slam ", " bell 2 odds 5;", 0, 20);
        bounds("street slam 3 bell ", " odds 5;", 0, 20);
        bounds("street slam 3 bell 2 odds ", ";", 0, 10);
        Due.sentence(0, "day: thaw, frost 0 .. 9");
        bounds(HEAD + "day thaw ", ";", 0, 9);
        bounds(HEAD + "day frost ", ";", 0, 9);
        Due.sentence(0, "eave: sun 0 .. 4");
        bounds(HEAD + "eave sun ", ";", 0, 4);
        Due.sentence(0, "length 1 .. 99, HOUR 0 .. 23");
        bounds(HEAD + "eave sun 1;icicle at 0 length ", " hour 1;", 1, 99);
        bounds(HEAD + "eave sun 1;icicle at 0 length 5 hour ", ";", 0, 23);
        Due.sentence(0, "due: HOUR 0 .. 23");
        bounds(HEAD + "day thaw 1;due hour ", " on 0;", 0, 23);
    }

    /** A number at its least and greatest is told; beside them, or where it would wrap round into them, it is a fault. */
    private static void bounds(String ahead, String behind, int least, int most) {
        int lines = (int) (ahead + behind).chars().filter(sign -> sign == ';').count();
        told(ahead + least + behind, lines);
        told(ahead + most + behind, lines);
        told(ahead + "000000000000000000000" + most + behind, lines);
        faulty(ahead + (most + 1) + behind, 2, ahead.length());
        faulty(ahead + "1" + "0".repeat(30) + behind, 2, ahead.length());
        if (least > 0) {
            faulty(ahead + (least - 1) + behind, 2, ahead.length());
        }
        for (int bits = 8; bits <= 64; bits *= 2) {
            BigInteger round = BigInteger.ONE.shiftLeft(bits).add(BigInteger.valueOf(least));
            faulty(ahead + round + behind, 2, ahead.length());
        }
        faulty(ahead + "-" + least + behind, 1, ahead.length());
        faulty(ahead + behind.trim(), 1, ahead.length());
    }

    private static void toldAhead() {
        Due.sentence(0, "E an EAVE told ahead");
        bounds(HEAD + "eave sun 1;icicle at ", " length 5 hour 1;", 0, 0);
        bounds(HEAD + "eave sun 1;eave sun 1;eave sun 1;icicle at ", " length 5 hour 1;", 0, 2);
        faulty(HEAD + "icicle at 0 length 5 hour 1;eave sun 1;", 2, 38);
        faulty(HEAD + "eave sun 1;icicle at 1 length 5 hour 1;eave sun 1;", 2, 49);
        Due.sentence(0, "D a DAY told ahead");
        bounds(HEAD + "day thaw 1;day frost 1;due hour 1 on ", ";", 0, 1);
        faulty(HEAD + "due hour 1 on 0;day thaw 1;", 2, 42);
        faulty(HEAD + "day thaw 1;due hour 1 on 1;day thaw 1;", 2, 53);
    }

    private static void asTheyStand() {
        Due.sentence(0, "DAYS 0 .. 13, EAVES 0 .. 4, ICICLES 0 .. 7, WORKS (due) 0 .. 5 are numbered as they stand.");
        IcicleClock x = told(HEAD + "day thaw 7;eave sun 2;icicle at 0 length 3 hour 4;day frost 5;due hour 6 on 1;"
            + "eave sun 0;icicle at 1 length 8 hour 9;due hour 10 on 0;", 9);
        Due.row("mixed", new long[] {x.day(0), x.day(1), x.melt(0, 0), x.melt(1, 0), x.icicle(0, 1), x.icicle(1, 1),
            x.work(0, 0), x.work(1, 0)}, 7, -5, 14, 0, 3, 8, 6, 10);
        StringBuilder text = new StringBuilder(HEAD);
        for (int k = 0; k < 14; k++) {
            text.append(k < 5 ? "eave sun " + (4 - k) + ";" : "").append("day thaw ").append(k % 10).append(';');
            text.append(k < 8 ? "icicle at 0 length " + (90 + k) + " hour 1;" : "");
            text.append(k < 6 ? "due hour " + (10 + k) + " on 0;" : "");
        }
        IcicleClock full = told(text.toString(), 34);
        Due.row("counts", new long[] {full.count(3), full.count(4), full.count(5), full.count(6)}, 14, 5, 8, 6);
        Due.row("first ones", new long[] {full.day(0), full.melt(0, 1), full.icicle(0, 1), full.work(0, 0)}, 0, 4, 90, 10);
        Due.row("last ones", new long[] {full.day(13), full.melt(3, 13), full.melt(4, 13), full.icicle(7, 1), full.work(5, 0)},
            3, 3, 0, 97, 15);
        Due.row("no others", new long[] {full.day(14), full.melt(5, 0), full.icicle(8, 1), full.work(6, 0)},
            -1000, -1000, -2, -2);
    }

    private static void everyByte() {
        Due.sentence(0, "TOKENS, blanks (32, 10) aside, the longest: words (a .. z), numbers (digits), the sign ; .");
        for (int sign = 0; sign < 256; sign++) {
            String between = HEAD + (char) sign + "day thaw 1;";
            if (sign == 32 || sign == 10) {
                told(between, 2);
                told(HEAD + "day thaw" + (char) sign + "1;", 2);
            } else {
                faulty(between, 1, 28);
                behindAWord((char) sign);
            }
        }
    }

    /** A sign right behind "thaw": of the same word, a number's first digit, or a token of its own. */
    private static void behindAWord(char sign) {
        String text = HEAD + "day thaw" + sign + "1;";
        if (sign == '0') {
            told(text, 2);
        } else if (sign >= '1' && sign <= '9') {
            faulty(text, 2, 36);
        } else {
            faulty(text, 1, sign >= 'a' && sign <= 'z' ? 32 : 36);
        }
    }

    private static void longestTokens() {
        Due.sentence(0, "the longest: words (a .. z), numbers (digits)");
        told("street slam3bell2odds5;day thaw9;", 2);
        told("street\nslam\n3\nbell\n2\nodds\n5\n;\n", 1);
        faulty("streetslam 3 bell 2 odds 5;", 1, 0);
        faulty("street slam 3 bell 2 od ds 5;", 1, 21);
        faulty("street slam 3 bell 2 odds 1 0;", 1, 28);
        faulty(HEAD + "dayday thaw 1;", 1, 28);
        faulty(HEAD + "da", 1, 28);
        faulty(HEAD + "say thaw 1;", 1, 28);
        faulty(HEAD + "dax thaw 1;", 1, 28);
        faulty(HEAD + "day", 1, 31);
        faulty(HEAD + ";", 1, 28);
    }

    private static void firstByPlace() {
        Due.sentence(0, "the first by its place (a TOKEN's first byte; the end's)");
        faulty("street slam 21 bell A odds 11;", 2, 12);
        faulty("street slam A bell 21 odds 11;", 1, 12);
        faulty("street slam 20 bell   2021 odds 11;", 2, 22);
        faulty("street slam 3 bell 2 odds 5;  frozen", 1, 30);
        faulty(HEAD + "day thaw 1;".repeat(14) + "eave sun 5;day thaw 1;", 2, 28 + 154 + 9);
        faulty(HEAD + "day thaw 1;".repeat(14) + "day thaw 10;eave sun 5;", 3, 28 + 154);
    }

    private static void ofOnePlaceTheLeast() {
        Due.sentence(0, "of one place the least");
        faulty(HEAD + "day 100 thaw 1;", 1, 32);
        faulty(HEAD + "day thaw 9 100;", 1, 39);
        faulty("100", 1, 0);
        faulty(HEAD + "day thaw 1;".repeat(14) + "eave day 1;", 1, 28 + 154 + 5);
        faulty(HEAD + "eave sun 1;".repeat(5) + "day eave 1;", 1, 28 + 55 + 4);
    }

    private static void placeOfTheEnd() {
        Due.sentence(0, "(a TOKEN's first byte; the end's)");
        faulty("street slam 3 bell 2 odds 5", 1, 27);
        faulty("street slam 3 bell 2 odds 5 \n ", 1, 30);
        faulty("s", 1, 0);
        faulty("street", 1, 6);
        String longest = HEAD + " ".repeat(1000 - 28 - 11) + "day thaw 1;";
        told(longest, 2);
        faulty(longest.substring(0, 999), 1, 999);
        faulty(longest.substring(0, 999) + " ", 1, 1000);
    }

    private static void tooManyAtTheWord() {
        Due.sentence(0, "3 a 15th day, 6th eave, 9th icicle, 7th due, at its word.");
        tooMany("day thaw 1;", "day thaw 1;", 14, "day");
        tooMany("day thaw 1;", "day frost 1;", 14, "day");
        tooMany("eave sun 1;", "eave sun 1;", 5, "eave");
        tooMany("eave sun 1;", "icicle at 0 length 5 hour 1;", 8, "icicle");
        tooMany("day thaw 1;", "due hour 1 on 0;", 6, "due");
    }

    private static void tooMany(String first, String line, int most, String word) {
        boolean same = first.startsWith(word);
        String full = HEAD + first + line.repeat(same ? most - 1 : most);
        told(full, most + (same ? 1 : 2));
        faulty(full + line, 3, full.length());
        faulty(full + " \n" + word, 3, full.length() + 2);
        faulty(full + word + " A", 3, full.length());
        faulty(full + word + "x", 1, full.length());
    }

    private static void noStreet() {
        Due.sentence(1, "No STREET.");
        IcicleClock x = new IcicleClock();
        Due.row("numbers", new long[] {x.day(0), x.melt(0, 0), x.late(0)}, -1000, -1000, -1000);
        Due.row("told", new long[] {x.icicle(0, 0), x.work(0, 0), x.eave(0), x.falls(0), x.length(0, 0), x.longest(0),
            x.drops(0), x.hang(0), x.under(0), x.rush(), x.next(0, 0), x.barest()},
            -2, -2, -2, -2, -2, -2, -2, -2, -2, -2, -2, -2);
        Due.row("times and works", new long[] {x.time(0, 0), x.hour(0), x.meet(0, 0), x.apart(0, 0), x.tells(0), x.lates(),
            x.off(), x.worst()}, -2, -2, -2, -2, -2, -2, -2, -2);
        Due.row("questions", new long[] {x.size(0, 0), x.sizes(0, 0), x.place(0, 0), x.best(0), x.offs(0), x.doors(0, 0),
            x.round(0, 0), x.rounds(0, 0, 0), x.chance(0, 0, 0), x.likely(0), x.surest(0, 0)},
            -2, -2, -2, -2, -2, -2, -2, -2, -2, -2, -2);
        Due.row("seen", new long[] {x.slams(0), x.slam(0), x.calm(0), x.ask(0), x.weathers(0, 1), x.weather(0, 1, 0),
            x.warmth(0, 1, 0)}, -2, -2, -2, -2, -2, -2, -2);
        Due.row("walks and rests", new long[] {x.walk(), x.walks(0), x.ways(), x.rests(), x.rest()}, -2, -2, -2, -2, -2);
        Due.row("acts", new long[] {x.door(0, 0), x.ring(0), x.undo(), x.anew(), x.drawn(0, 0), x.luck(0, 1, 0, 0),
            x.hung(0, 1)}, -2, -2, -2, -2, -2, -2, -2);
        for (int what = 0; what <= 10; what++) {
            Due.due("count(" + what + ")", x.count(what), 0);
        }
        Due.row("nothing is kept", new long[] {x.back(0), x.back(1), x.back(2), x.write(0, 0, 0), x.write(3, 0, 0),
            x.paste(0, 0, 3, 0, 0)}, -6, -6, -6, -6, -6, -6);
    }

    private static void feedBeyondThousand() {
        Due.sentence(2, "how many it has; NONE, and none come, if it would have more than 1,000.");
        IcicleClock x = new IcicleClock();
        int blanks = 0x20202020;
        for (int k = 1; k <= 50; k++) {
            Due.due("feed " + k, x.feed(blanks, blanks, blanks, blanks, blanks), 20 * k);
        }
        for (int has = 1000; has > 980; has--) {
            Due.row("at " + has, new long[] {x.end(has), x.feed(-1, -1, -1, -1, -1), x.count(9)}, has, -1, has);
        }
        Due.row("at 980", new long[] {x.end(980), x.feed(blanks, blanks, blanks, blanks, blanks), x.street()}, 980, 1000, 0);
        String text = HEAD + " ".repeat(961) + "day thaw 1;";
        Due.feedText(x, text);
        Due.row("a full tape is as it was", new long[] {x.feed(-1, -1, -1, -1, -1), x.count(9), x.street(), x.day(0)},
            -1, 1000, 2, 1);
    }

    private static void feedHighestFirst() {
        Due.sentence(2, "Twenty bytes come behind the TAPE, four of each number, the highest first");
        IcicleClock x = new IcicleClock();
        x.feed(0x73747265, 0x65742073, 0x6c616d20, 0x31206265, 0x6c6c2032);
        x.feed(0x206f6464, 0x7320333b, 0x20202020, 0x20202020, 0x20202020);
        Due.row("street slam 1 bell 2 odds 3;", new long[] {x.street(), x.count(0), x.count(1), x.count(2)}, 1, 1, 2, 3);
        for (int place = 0; place < 20; place++) {
            int[] five = {0x20202020, 0x0a0a0a0a, 0x200a200a, 0x0a20200a, 0x20202020};
            five[place / 4] |= 0xff << 24 - 8 * (place % 4);
            x.end(0);
            x.feed(five[0], five[1], five[2], five[3], five[4]);
            Due.row("a byte of 255 at " + place, new long[] {x.street(), x.fault(1)}, -4, place);
        }
    }

    private static void endOfWhatThereIs() {
        Due.sentence(3, "The TAPE has its first n bytes alone: n");
        IcicleClock x = new IcicleClock();
        Due.row("of nothing", new long[] {x.end(0), x.count(9)}, 0, 0);
        Due.feedText(x, HEAD + "!!!!!!!!!!!!");
        Due.row("all, less, behind", new long[] {x.end(40), x.end(28), x.count(9)}, 40, 28, 28);
        Due.due("come behind these", x.feed(0x64617920, 0x74686177, 0x20313b20, 0x20202020, 0x20202020), 48);
        Due.row("told", new long[] {x.street(), x.day(0)}, 2, 1);
        Due.feedText(x, HEAD);
        Due.row("none at all", new long[] {x.end(0), x.count(9), x.street()}, 0, 0, 0);
    }

    private static void endRefused() {
        Due.sentence(3, "NONE, and nothing happens, if it has not so many, or n is below 0.");
        IcicleClock x = new IcicleClock();
        Due.row("of nothing", new long[] {x.end(1), x.end(-1), x.end(20), x.count(9)}, -1, -1, -1, 0);
        Due.feedText(x, HEAD);
        int[] wrong = {29, 30, 40, 1000, 1001, Integer.MAX_VALUE, -1, -28, Integer.MIN_VALUE};
        for (int n : wrong) {
            Due.row("end(" + n + ")", new long[] {x.end(n), x.count(9)}, -1, 28);
        }
        Due.row("as it was", new long[] {x.street(), x.count(0), x.end(28), x.end(1)}, 1, 3, -1, -1);
    }

    private static void streetTakesTheTape() {
        Due.sentence(4, "The TAPE (empty then) is the STREET (in place of another), nothing done: how many LINES");
        IcicleClock x = told(SMALL, 6);
        Due.row("the tape", new long[] {x.count(9), x.end(1), x.end(0)}, 0, -1, 0);
        x.hung(0, 9);
        x.ring(0);
        x.image(0);
        x.row(0, 0, 2);
        Due.row("the same again", new long[] {Due.tell(x, SMALL), x.count(7), x.undo(), x.hung(0, 2)}, 6, 0, -5, 1);
        Due.row("another", new long[] {Due.tell(x, "street slam 0 bell 0 odds 0;"), x.count(0), x.count(3), x.count(4),
            x.count(5), x.count(6), x.count(8), x.falls(0), x.day(0)}, 1, 0, 0, 0, 0, 0, 1, -2, -1000);
        Due.row("images and slots are not of it", new long[] {x.count(10), x.back(0), x.count(7), x.hung(0, 1)}, 1, 0, 1, -5);
    }

    private static void streetOfNothing() {
        Due.sentence(4, "(0: there is none then)");
        IcicleClock x = new IcicleClock();
        Due.row("of nothing", new long[] {x.street(), x.off(), x.fault(0), x.fault(1)}, 0, -2, 0, -1);
        Due.row("one line", new long[] {Due.tell(x, HEAD), x.off(), x.rush()}, 1, 0, -1);
        Due.row("an empty tape", new long[] {x.street(), x.off(), x.rush(), x.count(0), x.count(8)}, 0, -2, -2, 0, 0);
        Due.tell(x, "street slam 20 bell 20 odds 10;");
        Due.row("nothing of it", new long[] {x.count(1), x.street(), x.count(0), x.count(1), x.count(2), x.count(3), x.count(4),
            x.count(5), x.count(6), x.count(7), x.count(8), x.count(9)}, 20, 0, 0, 0, 0, 0, 0, 0, 0, 0, 0, 0);
        Due.row("blanks alone", new long[] {Due.tell(x, SMALL), Due.tell(x, " \n\n "), x.falls(0), x.day(0)}, 6, 0, -2, -1000);
        Due.row("and acts", new long[] {Due.tell(x, SMALL), x.ring(0), x.street(), x.count(7), x.undo()}, 6, 1, 0, 0, -2);
    }

    private static void faultAllStays() {
        Due.sentence(4, "-4: a FAULT (all stays).");
        IcicleClock x = told(SMALL, 6);
        x.hung(0, 2);
        x.ring(0);
        x.image(2);
        Due.see(x, 1, 0, 0);
        x.end(0);
        Due.feedText(x, HEAD + "day thaw 10;");
        int calm = x.calm(1);
        String before = Due.print(x).replaceFirst("fault 0 -1", "fault 2 37");
        Due.due("the fault", x.street(), -4);
        Due.stays("all but the fault", before, x);
        Due.row("the slot, the image", new long[] {x.calm(1), x.back(2), x.count(7)}, calm, 0, 1);
        Due.row("the tape's bytes", new long[] {x.end(28), x.street(), x.count(0), x.count(3)}, 28, 1, 3, 0);
        IcicleClock none = new IcicleClock();
        Due.row("and no street stays none", new long[] {Due.tell(none, "x"), none.off(), none.count(8)}, -4, -2, 0);
    }

    private static void faultOfTheLatest() {
        Due.sentence(5, "Of the latest street(), what 0: its FAULT, 0 without, 1: its place (NONE without).");
        IcicleClock x = told(HEAD, 1);
        Due.row("with", new long[] {Due.tell(x, HEAD + "eave sun 5;"), x.fault(0), x.fault(1)}, -4, 2, 37);
        x.end(0);
        x.image(0);
        x.back(0);
        Due.row("still", new long[] {x.fault(0), x.fault(1)}, 2, 37);
        Due.row("place 0", new long[] {Due.tell(x, "?"), x.fault(0), x.fault(1)}, -4, 1, 0);
        Due.row("without", new long[] {Due.tell(x, HEAD), x.fault(0), x.fault(1)}, 1, 0, -1);
        Due.sentence(5, "NONE for another what, and ahead of any (what 1).");
        IcicleClock none = new IcicleClock();
        Due.row("ahead of any", new long[] {none.fault(1), none.fault(0), none.fault(2)}, -1, 0, -1);
        Due.tell(none, "?");
        Due.row("another", new long[] {none.fault(2), none.fault(-1), none.fault(3), none.fault(Integer.MAX_VALUE),
            none.fault(Integer.MIN_VALUE)}, -1, -1, -1, -1, -1);
    }
}
