/** The edges of SLOTS and of promises 62 to 64, sentence by sentence. What a row has shows by what it is seen to tell. */
public final class EdgeRowsTest {
    private static final int[] FAR = {-1, 4, 5, Integer.MAX_VALUE, Integer.MIN_VALUE};

    /** Icicle k falls on day k, for k of 0 to 4; icicle 5 never. */
    private static final String TEXT = "street slam 0 bell 0 odds 0;" + "day thaw 1;".repeat(5) + "eave sun 1;"
        + "icicle at 0 length 1 hour 0;icicle at 0 length 2 hour 0;icicle at 0 length 3 hour 0;"
        + "icicle at 0 length 4 hour 0;icicle at 0 length 5 hour 0;icicle at 0 length 6 hour 0;";

    public static void main(String[] args) {
        rowsOfSixty();
        allNought();
        rowNoneSuch();
        rowBelowNought();
        cutToItsWidth();
        allBitsAreMinusOne();
        noSuchNumber();
        writeRefused();
        pasteAll();
        pasteAsTheyWere();
        pasteNone();
        pasteNoneSuch();
        pasteNothingThere();
        pasteOfOneWidth();
        pasteBeyond();
        pasteNothingHappens();
        Due.finish();
    }

    private static void rowsOfSixty() {
        Due.sentence(0, "SLOTS 0 .. 3 have rows of numbers of 1, 2, 4 or 8 bytes (WIDTH 0 .. 3), at most 60, or nothing.");
        IcicleClock x = Due.street(TEXT);
        for (int slot = 0; slot < 4; slot++) {
            Due.row("slot " + slot, new long[] {x.calm(slot), x.row(slot, slot, 60), x.write(slot, 59, 0), x.write(slot, 60, 0),
                x.row(slot, 3 - slot, 61), x.calm(slot), x.count(10)}, -6, 0, 0, -7, -2, 1, slot + 1);
        }
        Due.row("a row of nothing is a row", new long[] {x.row(0, 0, 0), x.calm(0), x.count(10)}, 0, 1, 4);
    }

    private static void allNought() {
        Due.sentence(62, "A SLOT (0 .. 3) has a row of n numbers of a WIDTH, all 0 (in place of another one): 0.");
        IcicleClock x = Due.street(TEXT);
        Due.row("at first", new long[] {x.row(0, 1, 60), x.calm(0)}, 0, 1);
        for (int i = 0; i < 60; i++) {
            x.write(0, i, 5);
        }
        Due.row("in place of another", new long[] {x.calm(0), x.row(0, 1, 60), x.calm(0)}, -2, 0, 1);
        x.write(0, 58, 1);
        Due.row("a shorter, then a longer one", new long[] {x.row(0, 1, 2), x.calm(0), x.row(0, 1, 60), x.calm(0)}, 0, 1, 0, 1);
        x.write(0, 0, 1);
        Due.row("of another width", new long[] {x.row(0, 2, 2), x.calm(0), x.write(0, 2, 0)}, 0, 1, -7);
    }

    private static void rowNoneSuch() {
        Due.sentence(62, "-2: there is no such SLOT or WIDTH (0 .. 3), or n is above 60");
        IcicleClock x = Due.street(TEXT);
        for (int k : FAR) {
            Due.row("slot, width " + k, new long[] {x.row(k, 0, 1), x.row(0, k, 1)}, -2, -2);
        }
        Due.row("n", new long[] {x.row(0, 0, 61), x.row(0, 0, 62), x.row(0, 0, Integer.MAX_VALUE), x.count(10)}, -2, -2, -2, 0);
        Due.see(x, 0, 1, 0);
        Due.row("a row stays", new long[] {x.row(0, 0, 61), x.row(0, 4, 2), x.row(4, 0, 2), x.calm(0), x.write(0, 1, 1), x.calm(0)},
            -2, -2, -2, 0, 0, 1);
    }

    private static void rowBelowNought() {
        Due.sentence(62, "-3, and the SLOT stays: n is below 0.");
        IcicleClock x = Due.street(TEXT);
        Due.row("nothing stays nothing", new long[] {x.row(0, 0, -1), x.row(0, 3, Integer.MIN_VALUE), x.count(10), x.calm(0)},
            -3, -3, 0, -6);
        Due.see(x, 0, 5, -1);
        Due.row("a row stays, and its width", new long[] {x.row(0, 0, -1), x.calm(0), x.write(0, 1, 65535), x.calm(0), x.write(0, 2, 0)},
            -3, 1, 0, 1, -7);
        Due.row("-2 comes ahead", new long[] {x.row(-1, 0, -1), x.row(4, 0, -1), x.row(0, -1, -1), x.row(0, 4, -1)}, -2, -2, -2, -2);
    }

    private static void cutToItsWidth() {
        Due.sentence(63, "Number i of the SLOT's row is v, cut to its WIDTH: 0.");
        IcicleClock x = Due.street(TEXT);
        for (int width = 0; width < 4; width++) {
            x.row(width, width, 2);
            x.write(width, 1, 3);
            for (int bits = 8; bits < 64; bits *= 2) {
                boolean cut = 8 << width <= bits;
                Due.row("3 and 2 to the " + bits + " at width " + width, new long[] {x.write(width, 0, 3 + (1L << bits)),
                    x.calm(width), x.write(width, 0, 3 - (1L << bits)), x.calm(width)}, 0, cut ? 1 : -2, 0, cut ? 1 : -2);
            }
            boolean narrow = width < 3;
            Due.row("the least and 3 at width " + width, new long[] {x.write(width, 0, Long.MIN_VALUE + 3), x.calm(width)},
                0, narrow ? 1 : -2);
        }
    }

    private static void allBitsAreMinusOne() {
        Due.sentence(63, "cut to its WIDTH");
        IcicleClock x = Due.street(TEXT);
        for (int width = 0; width < 4; width++) {
            x.row(width, width, 2);
            x.write(width, 0, 5);
            x.write(width, 1, -1);
            Due.due("-1 is NONE at width " + width, x.calm(width), 1);
            for (int bits = 8; bits < 64; bits *= 2) {
                x.write(width, 1, (1L << bits) - 1);
                Due.due("2 to the " + bits + " less 1 at width " + width, x.calm(width), 8 << width <= bits ? 1 : -2);
            }
            x.write(width, 1, Long.MAX_VALUE);
            Due.due("the greatest at width " + width, x.calm(width), width < 3 ? 1 : -2);
        }
    }

    private static void noSuchNumber() {
        Due.sentence(63, "-7: there is no such number.");
        IcicleClock x = Due.street(TEXT);
        x.row(0, 0, 2);
        for (int i : new int[] {-1, 2, 3, 60, Integer.MAX_VALUE, Integer.MIN_VALUE}) {
            Due.due("number " + i, x.write(0, i, 1), -7);
        }
        Due.row("none written; the last one is", new long[] {x.calm(0), x.write(0, 1, 1), x.calm(0)}, 1, 0, 0);
        Due.row("of nothing", new long[] {x.row(0, 0, 0), x.write(0, 0, 1), x.write(0, -1, 1)}, 0, -7, -7);
        Due.row("of sixty", new long[] {x.row(0, 0, 60), x.write(0, 59, 1), x.write(0, 60, 1)}, 0, 0, -7);
    }

    private static void writeRefused() {
        Due.sentence(63, "-2: there is no such SLOT; -6: it has nothing");
        IcicleClock x = new IcicleClock();
        for (int slot : FAR) {
            Due.row("slot " + slot, new long[] {x.write(slot, 0, 1), x.write(slot, -1, 1)}, -2, -2);
        }
        x.row(2, 0, 1);
        Due.row("nothing, whatever the number", new long[] {x.write(0, 0, 1), x.write(1, -1, 1), x.write(3, 60, 1), x.write(2, 0, 1),
            x.count(10)}, -6, -6, -6, 0, 1);
    }

    private static void pasteAll() {
        Due.sentence(64, "are put to another one's (or its own), from one on, as they were: 0.");
        IcicleClock x = Due.street(TEXT);
        x.row(0, 1, 60);
        x.row(1, 1, 60);
        x.write(0, 0, 1);
        x.write(0, 1, 1);
        x.write(0, 58, 4);
        x.write(0, 59, 4);
        Due.row("all sixty", new long[] {x.paste(0, 0, 1, 0, 60), x.calm(1), x.write(1, 58, 0), x.calm(1), x.calm(0)}, 0, 1, 0, 0, 1);
        Due.row("the last to the first", new long[] {x.paste(0, 58, 1, 59, 1), x.paste(0, 59, 1, 58, 1), x.calm(1)}, 0, 0, 1);
        Due.row("onto itself", new long[] {x.paste(0, 0, 0, 0, 60), x.calm(0)}, 0, 1);
    }

    /** Rows are told apart by icicles that fall on their own day: any number in the wrong place shows. */
    private static void pasteAsTheyWere() {
        Due.sentence(64, "(or its own), from one on, as they were");
        IcicleClock x = Due.street(TEXT);
        Due.see(x, 0, 1, 1, 2, 2, 3, 3);
        Due.row("two up", new long[] {x.paste(0, 0, 0, 2, 4), x.calm(0)}, 0, 1);
        x.write(0, 4, 3);
        Due.row("1 1 1 1 3 2", new long[] {x.calm(0), x.write(0, 5, 3), x.calm(0)}, 0, 0, 1);
        Due.row("one up", new long[] {x.paste(0, 0, 0, 1, 5), x.calm(0)}, 0, 0);
        Due.row("1 1 1 1 1 3, the last mended", new long[] {x.write(0, 4, 3), x.calm(0)}, 0, 1);
        Due.row("two down", new long[] {x.paste(0, 2, 0, 0, 4), x.calm(0), x.write(0, 3, 1), x.calm(0)}, 0, 1, 0, 0);
    }

    private static void pasteNone() {
        Due.sentence(64, "So many numbers of a SLOT's row, from one on");
        IcicleClock x = Due.street(TEXT);
        Due.see(x, 0, 1, 1);
        Due.see(x, 1, 2, 2);
        x.row(2, 1, 0);
        Due.row("no number, from the start, to the end", new long[] {x.paste(0, 0, 1, 0, 0), x.paste(0, 2, 1, 2, 0),
            x.paste(2, 0, 2, 0, 0), x.paste(0, 2, 2, 0, 0), x.calm(0), x.calm(1)}, 0, 0, 0, 0, 1, 1);
        Due.row("one of no numbers", new long[] {x.paste(2, 0, 0, 0, 1), x.paste(0, 0, 2, 0, 1)}, -7, -7);
    }

    private static void pasteNoneSuch() {
        Due.sentence(64, "-2: there is no such SLOT");
        IcicleClock x = new IcicleClock();
        x.row(0, 0, 2);
        x.row(1, 1, 2);
        for (int slot : FAR) {
            Due.row("slot " + slot, new long[] {x.paste(slot, 0, 0, 0, 1), x.paste(0, 0, slot, 0, 1), x.paste(slot, 0, slot, 0, 0)},
                -2, -2, -2);
            Due.row("ahead of all else, " + slot, new long[] {x.paste(slot, -1, 3, -1, -1), x.paste(3, 0, slot, 0, 1),
                x.paste(1, 9, slot, 9, 9)}, -2, -2, -2);
        }
    }

    private static void pasteNothingThere() {
        Due.sentence(64, "-6: one has nothing");
        IcicleClock x = new IcicleClock();
        x.row(0, 0, 2);
        Due.row("from, to, both", new long[] {x.paste(1, 0, 0, 0, 1), x.paste(0, 0, 1, 0, 1), x.paste(1, 0, 2, 0, 1),
            x.paste(1, 0, 1, 0, 0)}, -6, -6, -6, -6);
        Due.row("ahead of places", new long[] {x.paste(1, -1, 0, 0, 1), x.paste(0, 0, 1, 9, 9), x.paste(0, 0, 1, 0, -1)}, -6, -6, -6);
        Due.due("nothing came", x.count(10), 1);
    }

    private static void pasteOfOneWidth() {
        Due.sentence(64, "-8: they are not of one WIDTH");
        IcicleClock x = new IcicleClock();
        for (int width = 0; width < 4; width++) {
            x.row(width, width, 2);
        }
        for (int from = 0; from < 4; from++) {
            for (int to = 0; to < 4; to++) {
                int due = from == to ? 0 : -8;
                Due.row("from " + from + " to " + to, new long[] {x.paste(from, 0, to, 0, 2), x.paste(from, 0, to, 0, 0)}, due, due);
                Due.row("ahead of places", new long[] {x.paste(from, 2, to, 0, 1), x.paste(from, 0, to, -1, 1)},
                    from == to ? -7 : -8, from == to ? -7 : -8);
            }
        }
    }

    private static void pasteBeyond() {
        Due.sentence(64, "some are beyond their rows, or a place or n is below 0.");
        IcicleClock x = new IcicleClock();
        x.row(0, 1, 4);
        x.row(1, 1, 3);
        Due.row("the most that can be", new long[] {x.paste(0, 1, 1, 0, 3), x.paste(1, 0, 0, 1, 3), x.paste(0, 3, 1, 2, 1)}, 0, 0, 0);
        Due.row("one beyond", new long[] {x.paste(0, 2, 1, 0, 3), x.paste(1, 0, 0, 2, 3), x.paste(0, 0, 1, 0, 4), x.paste(0, 4, 1, 0, 1),
            x.paste(0, 0, 1, 3, 1)}, -7, -7, -7, -7, -7);
        Due.row("below 0", new long[] {x.paste(0, -1, 1, 0, 1), x.paste(0, 0, 1, -1, 1), x.paste(0, 0, 1, 0, -1),
            x.paste(0, -1, 1, 0, 0), x.paste(0, 0, 1, -1, 0), x.paste(0, 2, 1, 2, -1)}, -7, -7, -7, -7, -7, -7);
        int most = Integer.MAX_VALUE;
        int least = Integer.MIN_VALUE;
        Due.row("far, where sums would wrap round", new long[] {x.paste(0, most, 1, 0, 1), x.paste(0, 0, 1, most, 1),
            x.paste(0, 1, 1, 1, most), x.paste(0, most, 1, most, most), x.paste(0, least, 1, 0, least), x.paste(0, least, 1, least, 1),
            x.paste(0, 0, 1, 0, least), x.paste(0, most, 1, 0, 2)}, -7, -7, -7, -7, -7, -7, -7, -7);
    }

    private static void pasteNothingHappens() {
        Due.sentence(64, "-7, and nothing happens");
        IcicleClock x = Due.street(TEXT);
        Due.see(x, 0, 3, 3, 4, 4);
        Due.see(x, 1, 1, 1, 2, 2);
        Due.row("one too many for the row they go to", new long[] {x.paste(0, 0, 1, 1, 4), x.calm(1)}, -7, 1);
        Due.row("or they come from", new long[] {x.paste(0, 2, 1, 0, 3), x.calm(1)}, -7, 1);
        Due.row("or below 0", new long[] {x.paste(0, -1, 1, 0, 2), x.paste(0, 1, 1, -1, 2), x.calm(1), x.calm(0)}, -7, -7, 1, 1);
        Due.row("it has 1 1 2 2 still", new long[] {x.write(1, 1, 2), x.calm(1), x.write(1, 1, 1), x.write(1, 3, 3), x.calm(1)},
            0, 0, 0, 0, 0);
    }
}
