/** Promises 62 to 64: rows, their widths, and what is pasted. What a row holds shows by what it is seen to tell. */
public final class RowTest {
    /** Icicle k falls on day k, for k of 0 to 4; icicle 5 never. */
    private static final String TEXT = "street slam 0 bell 0 odds 0;day thaw 1;day thaw 1;day thaw 1;day thaw 1;day thaw 1;"
        + "eave sun 1;icicle at 0 length 1 hour 0;icicle at 0 length 2 hour 0;icicle at 0 length 3 hour 0;"
        + "icicle at 0 length 4 hour 0;icicle at 0 length 5 hour 0;icicle at 0 length 6 hour 0;";

    public static void main(String[] args) {
        rows();
        rowsRefused();
        widths();
        writesRefused();
        pastes();
        pastesOverItself();
        pastesRefused();
        Due.finish();
    }

    private static void rows() {
        IcicleClock x = Due.street(TEXT);
        Due.row("slots", new long[] {x.row(0, 0, 0), x.count(10), x.row(3, 3, 60), x.count(10), x.row(0, 1, 2), x.count(10)},
            0, 1, 0, 2, 0, 2);
        Due.row("all 0: icicle 0 falls on 0", new long[] {x.calm(0), x.calm(3)}, 1, 1);
        x.write(0, 0, 1);
        Due.due("icicle 1 does not", x.calm(0), 0);
        Due.due("in place of another one", x.row(0, 1, 2), 0);
        Due.due("all 0 again", x.calm(0), 1);
        x.row(0, 0, 0);
        Due.due("a row of none is a row", x.calm(0), 1);
        Tells.noStreetNeeded();
    }

    private static final class Tells {
        static void noStreetNeeded() {
            IcicleClock x = new IcicleClock();
            Due.row("without a street", new long[] {x.row(1, 2, 3), x.write(1, 2, 9), x.paste(1, 2, 1, 0, 1), x.count(10)}, 0, 0, 0, 1);
        }
    }

    private static void rowsRefused() {
        IcicleClock x = Due.street(TEXT);
        Due.row("none such", new long[] {x.row(4, 0, 1), x.row(-1, 0, 1), x.row(0, 4, 1), x.row(0, -1, 1), x.row(0, 0, 61),
            x.row(0, 0, Integer.MAX_VALUE), x.count(10)}, -2, -2, -2, -2, -2, -2, 0);
        Due.row("-2 ahead of -3", new long[] {x.row(4, 0, -1), x.row(0, 4, -1)}, -2, -2);
        Due.row("below 0", new long[] {x.row(0, 0, -1), x.row(0, 0, Integer.MIN_VALUE), x.count(10)}, -3, -3, 0);
        x.row(0, 1, 2);
        x.write(0, 0, 1);
        Due.row("the slot stays", new long[] {x.row(0, 2, -1), x.calm(0), x.row(0, 2, 61), x.calm(0), x.write(0, 2, 0)}, -3, 0, -2, 0, -7);
    }

    private static void widths() {
        IcicleClock x = Due.street(TEXT);
        long[] cutToOne = {257L, 65537L, 4294967297L, Long.MIN_VALUE + 1};
        for (int width = 0; width < 4; width++) {
            x.row(width, width, 2);
            x.write(width, 1, 1);
            for (int k = 0; k < 4; k++) {
                x.write(width, 0, cutToOne[k]);
                boolean cut = width <= k && width < 3;
                Due.due("width " + width + " of " + cutToOne[k], x.calm(width), cut ? 1 : -2);
            }
            x.write(width, 0, 5);
            x.write(width, 1, (1L << (8 << width & 63)) - 1);
            boolean below = width < 3;
            Due.due("all bits are -1 at width " + width, x.calm(width), below ? 1 : 0);
            x.write(width, 1, -1);
            Due.due("-1 at width " + width, x.calm(width), 1);
        }
    }

    private static void writesRefused() {
        IcicleClock x = new IcicleClock();
        Due.row("no such slot", new long[] {x.write(4, 0, 0), x.write(-1, 0, 0), x.write(4, -1, 0)}, -2, -2, -2);
        Due.row("nothing there", new long[] {x.write(0, 0, 0), x.write(0, -1, 0)}, -6, -6);
        x.row(0, 0, 3);
        Due.row("no such number", new long[] {x.write(0, 3, 0), x.write(0, -1, 0), x.write(0, Integer.MIN_VALUE, 0),
            x.write(0, Integer.MAX_VALUE, 0), x.write(0, 2, 0)}, -7, -7, -7, -7, 0);
        x.row(0, 0, 0);
        Due.due("a row of none has no number", x.write(0, 0, 0), -7);
    }

    private static void pastes() {
        IcicleClock x = Due.street(TEXT);
        Due.see(x, 0, 3, 3, 4, 4);
        x.row(1, 1, 4);
        Due.due("two to the end", x.paste(0, 2, 1, 2, 2), 0);
        Due.due("0 on 0, 4 on 4", x.calm(1), 1);
        x.write(1, 0, 9);
        Due.due("the other ones stay", x.calm(0), 1);
        Due.due("one in the midst", x.paste(0, 0, 1, 0, 1), 0);
        Due.due("3 on 0 now", x.calm(1), 0);
        Due.due("and its day", x.paste(0, 1, 1, 1, 1), 0);
        Due.due("3 on 3 now", x.calm(1), 1);
        Due.due("none at all", x.paste(0, 4, 1, 4, 0), 0);
        Due.due("as it was", x.calm(1), 1);
    }

    /** As they were: numbers that are written over while they are put count as before. */
    private static void pastesOverItself() {
        IcicleClock x = Due.street(TEXT);
        Due.see(x, 0, 1, 1, 2, 2, 9, 9);
        Due.due("up", x.paste(0, 0, 0, 2, 4), 0);
        Due.due("1 1 1 1 2 2", x.calm(0), 1);
        x.write(0, 2, 3);
        x.write(0, 3, 3);
        Due.due("down", x.paste(0, 2, 0, 0, 4), 0);
        Due.due("3 3 2 2 2 2", x.calm(0), 1);
        x.row(1, 1, 2);
        x.paste(0, 0, 1, 0, 2);
        x.row(0, 1, 0);
        Due.due("3 3", x.calm(1), 1);
        x.write(1, 1, 0);
        Due.due("it was 3 indeed", x.calm(1), 0);
    }

    private static void pastesRefused() {
        IcicleClock x = new IcicleClock();
        x.row(0, 1, 4);
        x.row(1, 2, 4);
        x.row(2, 1, 3);
        Due.row("no such slot ahead of all", new long[] {x.paste(4, 0, 0, 0, 1), x.paste(0, 0, 4, 0, 1), x.paste(-1, 0, 3, 0, 1),
            x.paste(3, 0, -1, -1, -1)}, -2, -2, -2, -2);
        Due.row("nothing there ahead of the rest", new long[] {x.paste(0, 0, 3, 0, 1), x.paste(3, 0, 0, 0, 1), x.paste(3, -1, 1, 9, -1),
            x.paste(3, 0, 3, 0, 0)}, -6, -6, -6, -6);
        Due.row("not of one width, ahead of places", new long[] {x.paste(0, 0, 1, 0, 1), x.paste(1, 9, 0, 0, -1), x.paste(0, 0, 1, 0, 0)},
            -8, -8, -8);
        Due.row("beyond", new long[] {x.paste(0, 3, 2, 0, 2), x.paste(0, 0, 2, 0, 4), x.paste(0, 0, 2, 2, 2), x.paste(0, 4, 2, 0, 1)},
            -7, -7, -7, -7);
        Due.row("below 0", new long[] {x.paste(0, -1, 2, 0, 1), x.paste(0, 0, 2, -1, 1), x.paste(0, 0, 2, 0, -1)}, -7, -7, -7);
        int far = Integer.MAX_VALUE;
        Due.row("far", new long[] {x.paste(0, far, 2, 0, far), x.paste(0, 0, 2, far, 1), x.paste(0, 1, 2, 1, far),
            x.paste(0, Integer.MIN_VALUE, 2, 0, Integer.MIN_VALUE)}, -7, -7, -7, -7);
        nothingHappens();
    }

    private static void nothingHappens() {
        IcicleClock x = Due.street(TEXT);
        Due.see(x, 0, 3, 3, 4, 4);
        Due.see(x, 1, 1, 1, 2, 2);
        Due.due("too many", x.paste(0, 0, 1, 1, 4), -7);
        x.write(1, 2, 2);
        Due.due("and nothing happened", x.calm(1), 1);
        Due.due("it has 1 on 1 still", x.paste(1, 0, 0, 0, 2), 0);
        x.write(0, 1, 1);
        Due.due("so the other has it, too", x.calm(0), 1);
    }
}
