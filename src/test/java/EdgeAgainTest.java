/** A street in place of a greater one, or gone back to from it, answers as on a new object: nothing of the other is left. */
public final class EdgeAgainTest {
    private static final String SMALL = "street slam 3 bell 2 odds 5;day thaw 1;day frost 1;eave sun 1;eave sun 2;"
        + "icicle at 0 length 1 hour 1;icicle at 1 length 9 hour 2;due hour 1 on 1;";
    private static final String FULL = "street slam 20 bell 20 odds 9;" + "day thaw 9;".repeat(14) + "eave sun 4;".repeat(5)
        + "icicle at 1 length 36 hour 1;icicle at 0 length 40 hour 23;icicle at 0 length 99 hour 1;icicle at 1 length 99 hour 2;"
        + "icicle at 4 length 1 hour 1;".repeat(4) + "due hour 9 on 0;".repeat(6);
    private static final String BARE = "street slam 3 bell 2 odds 5;";

    public static void main(String[] args) {
        told(SMALL);
        told(BARE);
        told("");
        goneBackTo(SMALL);
        goneBackTo(BARE);
        goneBackTo("");
        behindAFault();
        inAnyOrder();
        Due.finish();
    }

    private static IcicleClock full() {
        IcicleClock x = Due.street(FULL);
        for (int day = 0; day < 14; day++) {
            x.door(day % 5, day);
        }
        ask(x, new StringBuilder());
        return x;
    }

    private static void told(String text) {
        Due.sentence(4, "(in place of another), nothing done");
        IcicleClock x = full();
        Due.tell(x, text);
        asNew("told behind a greater one", x, text);
    }

    private static void goneBackTo(String text) {
        Due.sentence(61, "It is as IMAGE k has it: 0.");
        IcicleClock x = Due.street(text);
        x.image(1);
        Due.tell(x, FULL);
        x.ring(3);
        x.door(4, 1);
        x.drawn(77, 1);
        x.best(0);
        Due.due("back", x.back(1), 0);
        asNew("gone back to", x, text);
    }

    private static void behindAFault() {
        Due.sentence(4, "-4: a FAULT (all stays).");
        IcicleClock x = Due.street(SMALL);
        Due.tell(x, FULL + "due");
        Due.due("the fault", x.fault(0), 3);
        x.end(0);
        asNew("behind a greater one with a fault", x, SMALL);
    }

    /** What is asked leaves nothing behind for the next question. */
    private static void inAnyOrder() {
        Due.sentence(37, "pairs of an EAVE and a DAY by which all FALL as a SLOT's row tells");
        IcicleClock x = Due.street(SMALL.replace("odds 5", "odds 10").replace("length 9", "length 4"));
        Due.see(x, 0, 1, IcicleClock.NONE);
        for (int time = 0; time < 3; time++) {
            Due.row("asked again", new long[] {x.slams(0), x.slam(0), x.ask(0), x.drawn(3, 1), x.luck(3, 20, 0, 0), x.best(1)},
                2, 0, IcicleClock.NONE, 3, 20, 1);
        }
        IcicleClock cold = Due.street(SMALL.replace("odds 5", "odds 0").replace("length 9", "length 4"));
        cold.row(0, 0, 0);
        cold.slams(0);
        Due.row("behind slams", new long[] {cold.drawn(3, 1), cold.falls(0), cold.falls(1)}, 1, 0, IcicleClock.NONE);
    }

    private static void asNew(String how, IcicleClock x, String text) {
        StringBuilder again = new StringBuilder();
        StringBuilder once = new StringBuilder();
        ask(x, again);
        ask(Due.street(text), once);
        Due.due(text + " " + how + ":\n" + again + "\n" + once, again.toString().contentEquals(once) ? 1 : 0, 1);
    }

    private static void ask(IcicleClock x, StringBuilder to) {
        x.row(0, 0, 0);
        to.append(Due.print(x).replaceFirst("fault -?\\d+ -?\\d+", ""));
        long[] whole = {x.rush(), x.barest(), x.lates(), x.worst(), x.tells(1), x.tells(2), x.tells(23), x.walk(), x.walks(1),
            x.ways(), x.rests(), x.rest(), x.slams(0), x.slam(0), x.ask(0), x.weathers(0, 2), x.drawn(5, 0), x.drawn(5, 1),
            x.drawn(5, 2), x.hang(1), x.undo()};
        add(to, whole);
        for (int k = 0; k < 3; k++) {
            add(to, x.falls(k), x.longest(k), x.best(k), x.offs(k), x.likely(k), x.late(k), x.eave(k), x.under(k), x.next(k, 0),
                x.apart(k, 0), x.meet(k, 1), x.round(k, 3), x.drops(k), x.hour(k), x.day(k));
            add(to, x.length(k, 1), x.size(k, 1), x.sizes(k, 1), x.place(k, 1), x.doors(k, 1), x.chance(k, 0, 0), x.chance(k, 0, 1),
                x.surest(k, 0), x.luck(9, 20, k, 1), x.time(k, 1), x.melt(k, 1));
        }
    }

    private static void add(StringBuilder to, long... answers) {
        for (long answer : answers) {
            to.append(' ').append(answer);
        }
    }
}
