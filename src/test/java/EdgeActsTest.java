/** The edges of promises 52 to 55 and 58 to 61, sentence by sentence. */
public final class EdgeActsTest {
    private static final int NONE = IcicleClock.NONE;
    private static final int[] FAR = {-1, -2, 14, 40, 100, Integer.MAX_VALUE, Integer.MIN_VALUE};

    /** A door or a bell takes 1 each; nothing melts. */
    private static final String TEXT = "street slam 1 bell 1 odds 5;day thaw 0;day thaw 0;eave sun 1;eave sun 1;"
        + "icicle at 0 length 40 hour 1;icicle at 0 length 1 hour 2;icicle at 1 length 1 hour 3;due hour 1 on 0;";

    public static void main(String[] args) {
        door();
        ring();
        noneSuch();
        fortyActs();
        noneSuchAheadOfForty();
        undo();
        undoNone();
        anew();
        hung();
        hungNoneSuch();
        hungByActs();
        count();
        image();
        back();
        backNothing();
        callsToTheLast();
        Due.finish();
    }

    private static void door() {
        Due.sentence(52, "how many ICICLES FALL on that DAY at it then.");
        IcicleClock x = Due.street(TEXT);
        Due.row("one at its eave", new long[] {x.door(0, 1), x.count(7), x.falls(1), x.falls(2)}, 1, 1, 1, NONE);
        Due.row("those that fell on it already, too", new long[] {x.door(0, 1), x.count(7)}, 1, 2);
        Due.row("a day ahead takes it from there", new long[] {x.door(0, 0), x.door(0, 1), x.drops(1)}, 1, 0, 0);
        Due.row("the other eave's", new long[] {x.door(1, 0), x.drops(0)}, 1, 6);
    }

    private static void ring() {
        Due.sentence(53, "how many FALL on that DAY then.");
        IcicleClock x = Due.street(TEXT);
        Due.row("at all eaves", new long[] {x.ring(1), x.count(7), x.drops(1), x.ring(0), x.ring(1), x.drops(1)}, 2, 1, 6, 2, 0, 0);
        IcicleClock all = Due.street("street slam 1 bell 1 odds 5;day thaw 0;eave sun 1;" + "icicle at 0 length 1 hour 1;".repeat(8));
        Due.due("all eight", all.ring(0), 8);
        Due.due("none there are", Due.street("street slam 1 bell 1 odds 5;day thaw 0;").ring(0), 0);
    }

    private static void noneSuch() {
        IcicleClock x = Due.street(TEXT);
        String before = Due.print(x);
        Due.sentence(52, "-2: there are none such");
        for (int k : FAR) {
            Due.row("door " + k, new long[] {x.door(k, 0), x.door(0, k)}, -2, -2);
        }
        Due.row("door beyond the last", new long[] {x.door(2, 0), x.door(0, 2)}, -2, -2);
        Due.sentence(53, "-2: there is none such");
        for (int k : FAR) {
            Due.due("ring " + k, x.ring(k), -2);
        }
        Due.due("ring beyond the last", x.ring(2), -2);
        Due.stays("nothing done", before, x);
        IcicleClock bare = Due.street("street slam 1 bell 1 odds 5;");
        Due.row("no eave, no day", new long[] {bare.door(0, 0), bare.ring(0)}, -2, -2);
    }

    private static IcicleClock withForty() {
        IcicleClock x = Due.street(TEXT);
        for (int act = 1; act < 40; act++) {
            Due.due("act " + act, act % 3 == 0 ? x.ring(0) - 2 : x.door(0, 0) - 1, 0);
        }
        Due.row("act 40", new long[] {x.falls(0), x.ring(0), x.count(7), x.falls(0)}, NONE, 3, 40, 0);
        return x;
    }

    private static void fortyActs() {
        Due.sentence(52, "-5: there were 40 acts.");
        IcicleClock x = withForty();
        String before = Due.print(x);
        Due.row("doors", new long[] {x.door(0, 0), x.door(1, 1)}, -5, -5);
        Due.stays("no door", before, x);
        Due.sentence(53, "-5 likewise.");
        Due.row("bells", new long[] {x.ring(0), x.ring(1)}, -5, -5);
        Due.stays("no bell", before, x);
        Due.row("one taken back makes room for one", new long[] {x.undo(), x.falls(0), x.door(0, 0), x.falls(0), x.door(0, 0)},
            39, NONE, 2, 0, -5);
        Due.row("so do all", new long[] {x.anew(), x.ring(0), x.count(7)}, 40, 2, 1);
    }

    private static void noneSuchAheadOfForty() {
        Due.sentence(0, "-2 is asked ahead of -5, -6.");
        IcicleClock x = withForty();
        Due.row("acts", new long[] {x.door(2, 0), x.door(0, 2), x.door(-1, -1), x.ring(2), x.ring(-1)}, -2, -2, -2, -2, -2);
        Due.row("hung", new long[] {x.hung(3, 5), x.hung(-1, 5), x.hung(0, 0), x.hung(0, 100)}, -2, -2, -2, -2);
        Due.row("no street", new long[] {new IcicleClock().undo(), new IcicleClock().door(0, 0), new IcicleClock().hung(0, 1)},
            -2, -2, -2);
    }

    private static void undo() {
        Due.sentence(54, "The latest act is taken back: how many there are.");
        IcicleClock x = Due.street(TEXT);
        x.door(0, 0);
        x.ring(1);
        x.door(1, 0);
        Due.row("the last door", new long[] {x.undo(), x.falls(1), x.falls(2), x.count(7)}, 2, 0, 1, 2);
        Due.row("the bell", new long[] {x.undo(), x.falls(1), x.falls(2)}, 1, 0, NONE);
        Due.row("the first door", new long[] {x.undo(), x.falls(1), x.falls(2)}, 0, NONE, NONE);
    }

    private static void undoNone() {
        Due.sentence(54, "-2: there is no STREET; -5: there is none.");
        IcicleClock x = new IcicleClock();
        Due.due("no street", x.undo(), -2);
        Due.row("none yet, none any more", new long[] {Due.tell(x, TEXT), x.undo(), x.ring(0), x.undo(), x.undo(), x.count(7)},
            9, -5, 2, 0, -5, 0);
        Due.row("none in a street of one line", new long[] {Due.tell(x, "street slam 1 bell 1 odds 5;"), x.undo()}, 1, -5);
        Due.row("no street any more", new long[] {x.street(), x.undo()}, 0, -2);
    }

    private static void anew() {
        Due.sentence(55, "All are: how many there were. -2 likewise.");
        IcicleClock x = withForty();
        Due.row("forty, then none", new long[] {x.anew(), x.count(7), x.falls(0), x.falls(1), x.anew(), x.undo()},
            40, 0, NONE, NONE, 0, -5);
        Due.row("no street", new long[] {new IcicleClock().anew(), x.street(), x.anew()}, -2, 0, -2);
    }

    private static void hung() {
        Due.sentence(58, "hung at a length of n (1 .. 99) from now on: at which it was.");
        IcicleClock x = Due.street(TEXT);
        Due.row("to 99, to 1, to the same", new long[] {x.hung(0, 99), x.longest(0), x.hung(0, 1), x.longest(0), x.hung(0, 1)},
            40, 99, 99, 1, 1);
        x.ring(0);
        Due.row("from now on", new long[] {x.falls(0), x.late(0), x.undo(), x.falls(0)}, 0, 0, 0, NONE);
        IcicleClock thaw = Due.street("street slam 1 bell 1 odds 5;day thaw 5;eave sun 1;icicle at 0 length 6 hour 1;");
        Due.row("it falls by it at once", new long[] {thaw.falls(0), thaw.hung(0, 5), thaw.falls(0), thaw.hour(0), thaw.hung(0, 6),
            thaw.falls(0)}, NONE, 6, 0, 1, 5, NONE);
        Due.row("the last icicle alone", new long[] {x.hung(2, 7), x.longest(2), x.longest(1), x.longest(0)}, 1, 7, 1, 1);
    }

    private static void hungNoneSuch() {
        Due.sentence(58, "-2: there are none such");
        IcicleClock x = Due.street(TEXT);
        String before = Due.print(x);
        for (int k : FAR) {
            Due.due("icicle " + k, x.hung(k, 5), -2);
        }
        for (int n : new int[] {0, 100, -1, -99, Integer.MAX_VALUE, Integer.MIN_VALUE}) {
            Due.due("length " + n, x.hung(0, n), -2);
        }
        Due.row("beyond the last, no street", new long[] {x.hung(3, 5), new IcicleClock().hung(0, 5)}, -2, -2);
        Due.stays("nothing hung", before, x);
    }

    private static void hungByActs() {
        Due.sentence(58, "-5: there are acts that are not taken back.");
        IcicleClock x = Due.street(TEXT);
        x.door(1, 1);
        String before = Due.print(x);
        Due.row("by one act", new long[] {x.hung(0, 5), x.hung(1, 1)}, -5, -5);
        Due.stays("nothing hung", before, x);
        Due.row("taken back", new long[] {x.undo(), x.hung(0, 5), x.longest(0)}, 0, 40, 5);
        x.ring(0);
        x.ring(1);
        Due.row("all taken back", new long[] {x.undo(), x.hung(0, 6), x.anew(), x.hung(0, 6)}, 1, -5, 1, 5);
    }

    private static void count() {
        Due.sentence(59, "9 bytes of the TAPE, 10 SLOTS that have a row. NONE for others.");
        IcicleClock x = Due.street(TEXT);
        Due.row("the tape", new long[] {x.feed(0, 0, 0, 0, 0), x.count(9), x.end(7), x.count(9), x.end(0), x.count(9)},
            20, 20, 7, 7, 0, 0);
        Due.row("slots", new long[] {x.count(10), x.row(3, 0, 0), x.count(10), x.row(3, 1, 2), x.count(10), x.row(0, 0, 60),
            x.row(1, 0, 1), x.row(2, 0, 1), x.count(10)}, 0, 0, 1, 0, 1, 0, 0, 0, 4);
        Due.row("the rest", new long[] {x.count(0), x.count(1), x.count(2), x.count(3), x.count(4), x.count(5), x.count(6), x.count(7),
            x.count(8)}, 1, 1, 5, 2, 2, 3, 1, 0, 9);
        Due.row("others", new long[] {x.count(11), x.count(-1), x.count(Integer.MAX_VALUE), x.count(Integer.MIN_VALUE)},
            NONE, NONE, NONE, NONE);
    }

    private static void image() {
        Due.sentence(60, "IMAGE k (0 .. 2) keeps the STREET, and acts: 0. -2: no such k.");
        IcicleClock x = withForty();
        Due.row("first and last", new long[] {x.image(0), x.image(2)}, 0, 0);
        String before = Due.print(x);
        Due.row("no such", new long[] {x.image(-1), x.image(3), x.image(Integer.MAX_VALUE), x.image(Integer.MIN_VALUE)},
            -2, -2, -2, -2);
        Due.stays("image", before, x);
        Due.row("no street, no acts", new long[] {x.street(), x.count(7), x.back(0)}, 0, 0, 0);
        Due.stays("all forty", before, x);
        Due.row("in place of another", new long[] {x.anew(), x.hung(0, 3), x.image(0), x.hung(0, 9), x.back(0), x.longest(0), x.count(7)},
            40, 40, 0, 3, 0, 3, 0);
        Due.row("the others stay", new long[] {x.back(2), x.longest(0), x.count(7)}, 0, 40, 40);
        Due.row("of no street", new long[] {x.street(), x.image(1), x.back(2), x.off(), x.back(1), x.off(), x.count(8)},
            0, 0, 0, 0, 0, -2, 0);
    }

    private static void back() {
        Due.sentence(61, "It is as IMAGE k has it: 0.");
        IcicleClock x = Due.street(TEXT);
        x.hung(0, 2);
        x.door(0, 0);
        x.image(1);
        String before = Due.print(x);
        x.ring(0);
        x.anew();
        x.hung(0, 77);
        Due.due("back", x.back(1), 0);
        Due.stays("as it was", before, x);
        Due.row("acts go on from there", new long[] {x.undo(), x.hung(0, 4), x.back(1), x.back(1)}, 0, 2, 0, 0);
        Due.stays("an image is not used up", before, x);
        Due.row("tape and slots are not of it", new long[] {x.feed(0, 0, 0, 0, 0), x.row(0, 0, 0), x.back(1), x.count(9), x.count(10)},
            20, 0, 0, 20, 1);
    }

    private static void backNothing() {
        Due.sentence(61, "-2: no such k; -6: it has nothing.");
        IcicleClock x = Due.street(TEXT);
        String before = Due.print(x);
        Due.row("no such", new long[] {x.back(-1), x.back(3), x.back(Integer.MAX_VALUE), x.back(Integer.MIN_VALUE)}, -2, -2, -2, -2);
        Due.row("nothing", new long[] {x.back(0), x.back(1), x.back(2)}, -6, -6, -6);
        Due.stays("street", before, x);
        x.image(1);
        Due.row("each by itself", new long[] {x.back(0), x.back(1), x.back(2)}, -6, 0, -6);
        Due.row("a new object", new long[] {new IcicleClock().back(0), new IcicleClock().back(3)}, -6, -2);
    }

    /** An object is good for 512 calls: the last of them answers as the first. */
    private static void callsToTheLast() {
        Due.sentence(54, "how many there are");
        IcicleClock x = Due.street(TEXT);
        int told = (TEXT.length() + 19) / 20 + 3;
        for (int calls = told; calls + 2 <= 510; calls += 2) {
            x.ring(calls % 2);
            x.undo();
        }
        Due.row("the last two", new long[] {x.ring(1), x.undo()}, 2, 0);
    }
}
