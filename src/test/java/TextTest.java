/** Promises 1 to 5: a new object, the tape, and the street's text with its faults. */
public final class TextTest {
    private static final String HEAD = "street slam 3 bell 2 odds 5;";

    public static void main(String[] args) {
        newObject();
        feed();
        bytesInOrder();
        end();
        street();
        streetInPlaceOfAnother();
        tokens();
        firstFault();
        misplaced();
        nearlyTokens();
        outOfBounds();
        tooMany();
        faultStaysOrGoes();
        Due.finish();
    }

    private static void newObject() {
        IcicleClock x = new IcicleClock();
        for (int what = 0; what <= 10; what++) {
            Due.due("new count(" + what + ")", x.count(what), 0);
        }
        Due.due("new off()", x.off(), -2);
        Due.due("new rests()", x.rests(), -2);
        Due.due("new undo()", x.undo(), -2);
        Due.due("new anew()", x.anew(), -2);
        Due.due("new day(0)", x.day(0), -1000);
        Due.due("new melt(0, 0)", x.melt(0, 0), -1000);
        Due.due("new late(0)", x.late(0), -1000);
        Due.due("new falls(0)", x.falls(0), -2);
        Due.due("new tells(0)", x.tells(0), -2);
        Due.due("new drawn(0, 0)", x.drawn(0, 0), -2);
        Due.due("new back(0)", x.back(0), -6);
        Due.due("new fault(0)", x.fault(0), 0);
        Due.due("new fault(1)", x.fault(1), -1);
        Due.due("new fault(2)", x.fault(2), -1);
    }

    private static void feed() {
        IcicleClock x = new IcicleClock();
        for (int k = 1; k <= 50; k++) {
            Due.due("feed " + k, x.feed(0, 0, 0, 0, 0), 20 * k);
        }
        Due.due("feed beyond 1,000", x.feed(1, 1, 1, 1, 1), -1);
        Due.due("none came", x.count(9), 1000);
        Due.due("end(980)", x.end(980), 980);
        Due.due("feed to 1,000", x.feed(0, 0, 0, 0, 0), 1000);
        Due.due("end(981)", x.end(981), 981);
        Due.due("feed to 1,001", x.feed(0, 0, 0, 0, 0), -1);
        Due.due("still 981", x.count(9), 981);
    }

    /** "stre" "et s" "lam " "3 be" "ll 2", the highest byte first. */
    private static void bytesInOrder() {
        IcicleClock x = new IcicleClock();
        Due.due("feed", x.feed(0x73747265, 0x65742073, 0x6c616d20, 0x33206265, 0x6c6c2032), 20);
        Due.due("feed", x.feed(0x206f6464, 0x7320353b, 0x0a0a0a0a, 0x20202020, 0x20202020), 40);
        Due.due("street()", x.street(), 1);
        Due.due("slam", x.count(0), 3);
        Due.due("bell", x.count(1), 2);
        Due.due("odds", x.count(2), 5);
        x.feed(-1, 0, 0, 0, 0);
        Due.due("a byte of 255 is no token", x.street(), -4);
        Due.due("fault(1)", x.fault(1), 0);
    }

    private static void end() {
        IcicleClock x = new IcicleClock();
        Due.due("end(0) of nothing", x.end(0), 0);
        Due.due("end(1) of nothing", x.end(1), -1);
        x.feed(0, 0, 0, 0, 0);
        Due.due("end(21)", x.end(21), -1);
        Due.due("end(-1)", x.end(-1), -1);
        Due.due("end(min)", x.end(Integer.MIN_VALUE), -1);
        Due.due("nothing happened", x.count(9), 20);
        Due.due("end(20)", x.end(20), 20);
        Due.due("end(7)", x.end(7), 7);
        Due.due("seven bytes", x.count(9), 7);
        Due.due("end(8)", x.end(8), -1);
    }

    private static void street() {
        IcicleClock x = new IcicleClock();
        Due.due("empty", x.street(), 0);
        Due.due("empty is no fault", x.fault(0), 0);
        Due.due("head alone", Due.tell(x, HEAD), 1);
        Due.due("there is a street", x.off(), 0);
        Due.due("the tape is empty then", x.count(9), 0);
        Due.due("lines", x.count(8), 1);
        Due.due("five lines", Due.tell(x, HEAD + "day thaw 1;eave sun 1;icicle at 0 length 1 hour 1;due hour 1 on 0;"), 5);
        Due.due("acts", x.ring(0), 1);
        Due.due("one act", x.count(7), 1);
        Due.due("blanks alone", Due.tell(x, " \n "), 0);
        Due.due("there is none then", x.off(), -2);
        Due.due("nor acts", x.count(7), 0);
        Due.due("nor lines", x.count(8), 0);
        Due.due("nor slam", x.count(0), 0);
    }

    private static void streetInPlaceOfAnother() {
        IcicleClock x = Due.street(HEAD + "day thaw 1;day thaw 9;eave sun 1;icicle at 0 length 9 hour 1;");
        x.row(2, 0, 4);
        x.image(1);
        Due.due("ring(0)", x.ring(0), 0);
        Due.due("a fault", Due.tell(x, "street slam 3 bell 2 odds 11;"), -4);
        Due.due("the street stays", x.count(3), 2);
        Due.due("the acts stay", x.count(7), 1);
        Due.due("the tape stays", x.count(9), 29);
        Due.due("mended by end", x.end(0), 0);
        Due.due("another", Due.tell(x, "street slam 0 bell 1 odds 2;day frost 4;"), 2);
        Due.due("nothing done", x.count(7), 0);
        Due.due("slam", x.count(0), 0);
        Due.due("days", x.count(3), 1);
        Due.due("icicles", x.count(5), 0);
        Due.due("slots stay", x.count(10), 1);
        Due.due("images stay", x.back(1), 0);
        Due.due("days as then", x.count(3), 2);
    }

    private static void tokens() {
        IcicleClock x = new IcicleClock();
        Due.due("no blanks but between words",
            Due.tell(x, "street slam3bell2odds5;day\nthaw007;eave   sun4 ;  due hour023on0;\n"), 4);
        Due.due("thaw 7", x.day(0), 7);
        Due.due("hour 23", x.work(0, 0), 23);
        Due.due("a long nought", Due.tell(x, HEAD + "day thaw 00000000000000000000000009;"), 2);
        Due.due("thaw 9", x.day(0), 9);
        faulty("streetslam 3 bell 2 odds 5;", 1, 0);
        faulty("street slam 3 bell 2 odds 5;da y thaw 1;", 1, 28);
        faulty("street slam 3 bell 2 odds 5;day thaw 1 1;", 1, 39);
    }

    private static void faulty(String text, int fault, int place) {
        IcicleClock x = new IcicleClock();
        Due.due("street() of " + text, Due.tell(x, text), -4);
        Due.due("fault(0) of " + text, x.fault(0), fault);
        Due.due("fault(1) of " + text, x.fault(1), place);
        Due.due("fault(2) of " + text, x.fault(2), -1);
        Due.due("fault(-1) of " + text, x.fault(-1), -1);
        Due.due("no street of " + text, x.off(), -2);
    }

    private static void firstFault() {
        faulty("street slam 21 bell 21 odds 5;", 2, 12);
        faulty("street slam 21 bell A", 2, 12);
        faulty("street slam A bell 21 odds 5;", 1, 12);
    }

    private static void misplaced() {
        faulty(";", 1, 0);
        faulty("7", 1, 0);
        faulty("  day thaw 1;", 1, 2);
        faulty("day thaw 10;street slam 3 bell 2 odds 5;", 1, 0);
        faulty("\tstreet slam 3 bell 2 odds 5;", 1, 0);
        faulty("Street slam 3 bell 2 odds 5;", 1, 0);
        faulty("street slam 3 bell 2 odds 5.", 1, 27);
        faulty("street slam 3 bell 2 odds -5;", 1, 26);
        faulty("street slam 3 bell 2 odds 5", 1, 27);
        faulty("street slam 3 bell 2 odds 5  \n", 1, 30);
        faulty("street slam 3 bell 2 odds", 1, 25);
        faulty("street", 1, 6);
        faulty("street slam 3 odds 5 bell 2;", 1, 14);
        faulty(HEAD + ";", 1, 28);
        faulty(HEAD + HEAD, 1, 28);
        faulty(HEAD + "day rain 1;", 1, 32);
        faulty(HEAD + "day thaw thaw;", 1, 37);
        faulty(HEAD + "eave 1;", 1, 33);
        faulty(HEAD + "house sun 1;", 1, 28);
        faulty(HEAD + "eave sun 1;icicle on 0 length 5 hour 1;", 1, 46);
        faulty(HEAD + "eave sun 1;icicle at 0 hour 1;", 1, 51);
        faulty(HEAD + "eave sun 1;icicle at 0 length 5;", 1, 59);
        faulty(HEAD + "day thaw 1;due hour 1;", 1, 49);
        faulty(HEAD + "day thaw 1;due on 0;", 1, 43);
    }

    /** Neighbours of the bytes that tokens have, and words that are nearly right. */
    private static void nearlyTokens() {
        faulty(HEAD + "dayz thaw 1;", 1, 28);
        faulty(HEAD + "day{thaw 1;", 1, 31);
        faulty(HEAD + "day`thaw 1;", 1, 31);
        faulty(HEAD + "day thaw /1;", 1, 37);
        faulty(HEAD + "day thaw :1;", 1, 37);
        faulty(HEAD + "day thaw 1:", 1, 38);
        faulty(HEAD + "day thaw 1<", 1, 38);
        faulty(HEAD + "day\rthaw 1;", 1, 31);
        faulty(HEAD + "day!thaw 1;", 1, 31);
        faulty(HEAD + "day\u000bthaw 1;", 1, 31);
        faulty("ztreet slam 3 bell 2 odds 5;", 1, 0);
        faulty("streez slam 3 bell 2 odds 5;", 1, 0);
        faulty("street xlam 3 bell 2 odds 5;", 1, 7);
        faulty("street slam 3 xell 2 odds 5;", 1, 14);
        faulty("street slam 3 bell 2 odd 5;", 1, 21);
        faulty(HEAD + "say thaw 1;", 1, 28);
        faulty(HEAD + "dax thaw 1;", 1, 28);
        faulty(HEAD + "xave sun 1;", 1, 28);
        faulty(HEAD + "eave son 1;", 1, 33);
        faulty(HEAD + "xcicle at 0 length 1 hour 1;", 1, 28);
        faulty(HEAD + "xue hour 1 on 0;", 1, 28);
    }

    private static void outOfBounds() {
        faulty("street slam 21 bell 0 odds 0;", 2, 12);
        faulty("street slam 20 bell 21 odds 0;", 2, 20);
        faulty("street slam 20 bell 20 odds 11;", 2, 28);
        faulty("street slam 99999999999999999999 bell 20 odds 1;", 2, 12);
        faulty("street slam 4294967296 bell 20 odds 1;", 2, 12);
        faulty(HEAD + "day thaw 10;", 2, 37);
        faulty(HEAD + "day frost 10;", 2, 38);
        faulty(HEAD + "eave sun 5;", 2, 37);
        faulty(HEAD + "icicle at 0 length 5 hour 1;eave sun 1;", 2, 38);
        faulty(HEAD + "eave sun 1;icicle at 1 length 5 hour 1;", 2, 49);
        faulty(HEAD + "eave sun 1;icicle at 0 length 0 hour 1;", 2, 58);
        faulty(HEAD + "eave sun 1;icicle at 0 length 100 hour 1;", 2, 58);
        faulty(HEAD + "eave sun 1;icicle at 0 length 99 hour 24;", 2, 66);
        faulty(HEAD + "due hour 1 on 0;day thaw 1;", 2, 42);
        faulty(HEAD + "day thaw 1;due hour 24 on 0;", 2, 48);
        faulty(HEAD + "day thaw 1;due hour 1 on 1;", 2, 53);
        IcicleClock x = new IcicleClock();
        Due.due("all at their greatest", Due.tell(x, "street slam 20 bell 20 odds 10;day thaw 9;day frost 9;"
            + "eave sun 4;icicle at 0 length 99 hour 23;due hour 23 on 1;"), 6);
        Due.due("all at their least", Due.tell(x, "street slam 0 bell 0 odds 0;day thaw 0;day frost 0;"
            + "eave sun 0;icicle at 0 length 1 hour 0;due hour 0 on 0;"), 6);
    }

    private static void tooMany() {
        String days = "day thaw 1;".repeat(14);
        String eaves = "eave sun 1;".repeat(5);
        String icicles = "icicle at 4 length 5 hour 1;".repeat(8);
        String dues = "due hour 1 on 13;".repeat(6);
        IcicleClock x = new IcicleClock();
        Due.due("as many as can be", Due.tell(x, HEAD + days + eaves + icicles + dues), 34);
        Due.due("days", x.count(3), 14);
        Due.due("eaves", x.count(4), 5);
        Due.due("icicles", x.count(5), 8);
        Due.due("works", x.count(6), 6);
        Due.due("lines", x.count(8), 34);
        faulty(HEAD + days + "day rain 10;", 3, 28 + 154);
        faulty(HEAD + eaves + "eave 9;", 3, 28 + 55);
        faulty(HEAD + eaves + icicles + "icicle", 3, 28 + 55 + 224);
        faulty(HEAD + days + dues + "due hour 1 on 13;", 3, 28 + 154 + 102);
        faulty(HEAD + days + "day", 3, 28 + 154);
        faulty(HEAD + days + "days", 1, 28 + 154);
    }

    private static void faultStaysOrGoes() {
        IcicleClock x = new IcicleClock();
        Due.tell(x, HEAD + "day thaw 10;");
        Due.due("fault(0)", x.fault(0), 2);
        Due.due("fault(1)", x.fault(1), 37);
        Due.due("again the same", x.street(), -4);
        Due.due("fault(1) again", x.fault(1), 37);
        Due.due("end(28) mends it", x.end(28), 28);
        Due.due("fault(0) is of the latest street()", x.fault(0), 2);
        Due.due("street()", x.street(), 1);
        Due.due("fault(0) without", x.fault(0), 0);
        Due.due("fault(1) without", x.fault(1), -1);
    }
}
