import java.lang.management.ManagementFactory;

/** All calls of a run live in one room: after an object is made, its calls make next to nothing. */
public final class RoomTest {
    public static void main(String[] args) {
        IcicleClock x = Due.street("street slam 1 bell 2 odds 5;" + "day thaw 1;".repeat(14) + "eave sun 1;".repeat(5)
            + "icicle at 4 length 5 hour 1;".repeat(8) + "due hour 1 on 13;".repeat(6));
        useAll(x);
        com.sun.management.ThreadMXBean room = (com.sun.management.ThreadMXBean) ManagementFactory.getThreadMXBean();
        long before = room.getCurrentThreadAllocatedBytes();
        for (int k = 0; k < 10; k++) {
            useAll(x);
        }
        long made = room.getCurrentThreadAllocatedBytes() - before;
        Due.due("calls make objects of " + made + " bytes", made < 4000 ? 1 : 0, 1);
        before = room.getCurrentThreadAllocatedBytes();
        IcicleClock y = new IcicleClock();
        made = room.getCurrentThreadAllocatedBytes() - before;
        Due.due("a new object has " + made + " bytes", made < 40000 && y.count(8) == 0 ? 1 : 0, 1);
        Due.finish();
    }

    private static long useAll(IcicleClock x) {
        long sum = x.feed(1, 2, 3, 4, 5) + x.end(0) + x.image(0) + x.row(0, 1, 0) + x.row(1, 3, 60) + x.write(1, 1, 5);
        sum += x.ring(3) + x.door(4, 2) + x.falls(1) + x.longest(0) + x.rush() + x.hour(13) + x.apart(0, 4) + x.off();
        sum += x.best(0) + x.offs(7) + x.size(3, 3) + x.place(0, 5) + x.doors(0, 1) + x.round(2, 31) + x.rounds(2, 31, 3);
        sum += x.slams(0) + x.slam(0) + x.ask(0) + x.calm(1) + x.weathers(0, 5) + x.weather(0, 5, 4) + x.warmth(0, 5, 1);
        sum += x.chance(0, 4, 0) + x.likely(3) + x.surest(0, 13) + x.walk() + x.walks(13) + x.ways() + x.rests() + x.rest();
        sum += x.drawn(5, 1) + x.luck(5, 20, 1, 13) + x.undo() + x.anew() + x.back(0) + x.paste(1, 0, 1, 1, 59) + x.count(10);
        return sum + x.hung(0, 9) + x.worst() + x.lates() + x.tells(1) + x.barest();
    }
}
