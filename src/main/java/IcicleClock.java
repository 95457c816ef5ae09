import java.util.Arrays;

/**
 * Icicles as clocks: a street is told as a text, and asked when each icicle falls, what hour it is
 * where, and what would be if it were otherwise. Every row that a call needs is made with the object.
 */
public final class IcicleClock {
    public static final int NONE = -1;

    private static final int NO_SUCH = -2;
    private static final int BELOW_ZERO = -3;
    private static final int FAULTY = -4;
    private static final int REFUSED = -5;
    private static final int NOTHING = -6;
    private static final int BEYOND = -7;
    private static final int UNLIKE = -8;
    private static final int NO_NUMBER = -1000;

    private static final int MOST_BYTES = 1000;
    private static final int BYTES_FED = 20;
    private static final int MOST_DAYS = 14;
    private static final int MOST_EAVES = 5;
    private static final int MOST_ICICLES = 8;
    private static final int MOST_WORKS = 6;
    private static final int MOST_ACTS = 40;
    private static final int MOST_LENGTH = 99;
    private static final int HOURS = 24;
    private static final int LATE_FOR_EVER = 99;
    private static final int MOST_DOORS = 20;
    private static final int MOST_SEED = 2000000000;
    private static final int MOST_WINTERS = 20;
    private static final int IMAGES = 3;

    private static final int SLOTS = 4;
    private static final int WIDTHS = 4;
    private static final int MOST_NUMBERS = 60;
    private static final int UNSEEN = -2;

    private static final int WEATHER_DAYS = 5;
    private static final int WEATHER_THAW = 3;
    private static final int MOST_WARMTH = WEATHER_DAYS * WEATHER_THAW;

    private static final int END = 0;
    private static final int WORD = 1;
    private static final int NUMBER = 2;
    private static final int SIGN = 3;
    private static final int NO_TOKEN = 4;
    private static final int BLANK = 5;

    private static final int MISPLACED = 1;
    private static final int OUT_OF_BOUNDS = 2;
    private static final int TOO_MANY = 3;

    private final Tape tape;
    private final Street now;
    private final Street draft;
    private final Street[] images;
    private final boolean[] kept;
    private final Slot[] slots;
    private final Winter winter;
    private final Winter whatIf;
    private final Seen seen;
    private final Slams slammings;
    private final Weathers skies;
    private final Chances chances;
    private final Walker walker;
    private final Clerks clerks;

    public IcicleClock() {
        tape = new Tape();
        now = new Street();
        draft = new Street();
        images = new Street[IMAGES];
        for (int k = 0; k < IMAGES; k++) {
            images[k] = new Street();
        }
        kept = new boolean[IMAGES];
        slots = new Slot[SLOTS];
        for (int slot = 0; slot < SLOTS; slot++) {
            slots[slot] = new Slot();
        }
        winter = new Winter();
        whatIf = new Winter();
        seen = new Seen();
        slammings = new Slams();
        skies = new Weathers();
        chances = new Chances();
        walker = new Walker();
        clerks = new Clerks();
    }

    // ---- the text ----

    public int feed(int a, int b, int c, int d, int e) {
        if (tape.filled > MOST_BYTES - BYTES_FED) {
            return NONE;
        }
        tape.putFour(a);
        tape.putFour(b);
        tape.putFour(c);
        tape.putFour(d);
        tape.putFour(e);
        return tape.filled;
    }

    public int end(int n) {
        if (n < 0 || n > tape.filled) {
            return NONE;
        }
        tape.filled = n;
        return n;
    }

    public int street() {
        if (!tape.readInto(draft)) {
            return FAULTY;
        }
        tape.filled = 0;
        now.copyFrom(draft);
        winter.passOver(now);
        return now.lines;
    }

    public int fault(int what) {
        if (what == 0) {
            return tape.fault;
        }
        return what == 1 ? tape.faultPlace : NONE;
    }

    // ---- what is told ----

    public int day(int day) {
        return isDay(day) ? now.thaw[day] : NO_NUMBER;
    }

    public int melt(int eave, int day) {
        return isEave(eave) && isDay(day) ? now.meltOn(eave, day) : NO_NUMBER;
    }

    public int icicle(int icicle, int what) {
        if (!isIcicle(icicle)) {
            return NO_SUCH;
        }
        switch (what) {
            case 0:
                return now.eaveOf[icicle];
            case 1:
                return now.lengthTold[icicle];
            case 2:
                return now.hourOf[icicle];
            default:
                return NO_SUCH;
        }
    }

    public int work(int work, int what) {
        if (!isWork(work) || !isEither(what)) {
            return NO_SUCH;
        }
        return what == 0 ? now.dueHour[work] : now.dueDay[work];
    }

    public int eave(int eave) {
        if (!isEave(eave)) {
            return NO_SUCH;
        }
        int bits = 0;
        for (int icicle = 0; icicle < now.icicles; icicle++) {
            if (now.eaveOf[icicle] == eave) {
                bits |= 1 << icicle;
            }
        }
        return bits;
    }

    // ---- what falls when ----

    public int falls(int icicle) {
        return isIcicle(icicle) ? winter.fall[icicle] : NO_SUCH;
    }

    public int length(int icicle, int day) {
        if (!isIcicle(icicle) || !isDay(day)) {
            return NO_SUCH;
        }
        if (winter.fellBy(icicle, day)) {
            return 0;
        }
        return now.lengthHung[icicle] - winter.lossThrough(now, now.eaveOf[icicle], day);
    }

    public int longest(int icicle) {
        if (!isIcicle(icicle)) {
            return NO_SUCH;
        }
        int left = now.lengthHung[icicle];
        int most = left;
        for (int day = 0; day < now.days && !winter.fellBy(icicle, day); day++) {
            left -= winter.lossOn(now, now.eaveOf[icicle], day);
            most = Math.max(most, left);
        }
        return most;
    }

    public int drops(int day) {
        return isDay(day) ? winter.fallenOn(now, day) : NO_SUCH;
    }

    public int hang(int day) {
        if (!isDay(day)) {
            return NO_SUCH;
        }
        int all = (1 << now.icicles) - 1;
        return all & ~winter.fallenBy(now, day);
    }

    public int under(int eave) {
        if (!isEave(eave)) {
            return NO_SUCH;
        }
        int bits = 0;
        for (int icicle = 0; icicle < now.icicles; icicle++) {
            if (now.eaveOf[icicle] == eave && winter.fall[icicle] != NONE) {
                bits |= 1 << winter.fall[icicle];
            }
        }
        return bits;
    }

    public int rush() {
        if (!isTold()) {
            return NO_SUCH;
        }
        int found = NONE;
        int most = 0;
        for (int day = 0; day < now.days; day++) {
            int many = Integer.bitCount(winter.fallenOn(now, day));
            if (many > most) {
                most = many;
                found = day;
            }
        }
        return found;
    }

    public int next(int eave, int day) {
        if (!isEave(eave) || !isDay(day)) {
            return NO_SUCH;
        }
        for (int later = day + 1; later < now.days; later++) {
            if (winter.fallsUnder(now, eave, later) > 0) {
                return later;
            }
        }
        return NONE;
    }

    public int barest() {
        if (!isTold()) {
            return NO_SUCH;
        }
        int found = NONE;
        int most = 0;
        for (int eave = 0; eave < now.eaves; eave++) {
            int many = 0;
            for (int day = 0; day < now.days; day++) {
                many += winter.fallsUnder(now, eave, day);
            }
            if (many > most) {
                most = many;
                found = eave;
            }
        }
        return found;
    }

    // ---- what hour it is ----

    public int time(int eave, int day) {
        return isEave(eave) && isDay(day) ? winter.timeAt(now, eave, day) : NO_SUCH;
    }

    public int hour(int day) {
        return isDay(day) ? winter.timeAt(now, NONE, day) : NO_SUCH;
    }

    public int meet(int eave, int other) {
        return isEave(eave) && isEave(other) ? winter.daysOfOneTime(now, eave, other) : NO_SUCH;
    }

    public int apart(int eave, int other) {
        if (!isEave(eave) || !isEave(other)) {
            return NO_SUCH;
        }
        int most = NONE;
        for (int day = 0; day < now.days; day++) {
            int one = winter.timeAt(now, eave, day);
            int two = winter.timeAt(now, other, day);
            if (one != NONE && two != NONE) {
                int way = Math.abs(one - two);
                most = Math.max(most, Math.min(way, HOURS - way));
            }
        }
        return most;
    }

    public int tells(int hour) {
        if (!isTold() || hour < 0 || hour >= HOURS) {
            return NO_SUCH;
        }
        int bits = 0;
        for (int day = 0; day < now.days; day++) {
            if (winter.timeAt(now, NONE, day) == hour) {
                bits |= 1 << day;
            }
        }
        return bits;
    }

    // ---- works ----

    public int late(int work) {
        return isWork(work) ? winter.lateness(now, work) : NO_NUMBER;
    }

    public int lates() {
        if (!isTold()) {
            return NO_SUCH;
        }
        int bits = 0;
        for (int work = 0; work < now.works; work++) {
            if (winter.lateness(now, work) >= 1) {
                bits |= 1 << work;
            }
        }
        return bits;
    }

    public int off() {
        return isTold() ? winter.offTogether(now) : NO_SUCH;
    }

    public int worst() {
        if (!isTold()) {
            return NO_SUCH;
        }
        int found = NONE;
        int most = 0;
        for (int work = 0; work < now.works; work++) {
            int far = Math.abs(winter.lateness(now, work));
            if (far > most) {
                most = far;
                found = work;
            }
        }
        return found;
    }

    // ---- how one were best hung ----

    public int size(int icicle, int day) {
        if (!isIcicle(icicle) || !isDay(day)) {
            return NO_SUCH;
        }
        int least = leastSize(icicle, day);
        return least <= mostSize(icicle, day) ? least : NONE;
    }

    public int sizes(int icicle, int day) {
        if (!isIcicle(icicle) || !isDay(day)) {
            return NO_SUCH;
        }
        return Math.max(0, mostSize(icicle, day) - leastSize(icicle, day) + 1);
    }

    public int place(int icicle, int day) {
        if (!isIcicle(icicle) || !isDay(day)) {
            return NO_SUCH;
        }
        int found = NONE;
        int nearest = MOST_DAYS;
        for (int eave = 0; eave < now.eaves; eave++) {
            int fall = winter.fallOf(now, eave, now.lengthHung[icicle]);
            if (fall != NONE && Math.abs(fall - day) < nearest) {
                nearest = Math.abs(fall - day);
                found = eave;
            }
        }
        return found;
    }

    public int best(int icicle) {
        return isIcicle(icicle) ? bestLength(icicle) : NO_SUCH;
    }

    public int offs(int icicle) {
        return isIcicle(icicle) ? offIfHung(icicle, bestLength(icicle)) : NO_SUCH;
    }

    public int doors(int icicle, int day) {
        if (!isIcicle(icicle) || !isDay(day)) {
            return NO_SUCH;
        }
        if (winter.fellBy(icicle, day)) {
            return 0;
        }
        int left = now.lengthHung[icicle] - winter.lossThrough(now, now.eaveOf[icicle], day);
        for (int more = 1; more <= MOST_DOORS; more++) {
            if (left - more * now.slamTakes <= 0) {
                return more;
            }
        }
        return NONE;
    }

    // ---- the kettle man ----

    public int round(int from, int set) {
        return isEave(from) && areEaves(set) ? leastSteps(from, set) : NO_SUCH;
    }

    public int rounds(int from, int set, int i) {
        if (!isEave(from) || !areEaves(set)) {
            return NO_SUCH;
        }
        if (i < 0 || i >= Integer.bitCount(set)) {
            return NONE;
        }
        int at = from;
        int left = set;
        for (int step = 0; step <= i; step++) {
            at = firstStop(at, left);
            left &= ~(1 << at);
        }
        return at;
    }

    // ---- who slammed, what weather it was ----

    public int slams(int slot) {
        int refused = refusal(slot, true, now.days);
        if (refused != 0) {
            return refused;
        }
        slammings.search(now, whatIf, seen);
        return slammings.fitting;
    }

    public int slam(int slot) {
        int refused = refusal(slot, true, now.days);
        if (refused != 0) {
            return refused;
        }
        slammings.search(now, whatIf, seen);
        return slammings.first;
    }

    public int calm(int slot) {
        int refused = refusal(slot, true, now.days);
        if (refused != 0) {
            return refused;
        }
        return seen.fits(now, winter) ? 1 : 0;
    }

    public int ask(int slot) {
        int refused = refusal(slot, true, now.days);
        if (refused != 0) {
            return refused;
        }
        slammings.search(now, whatIf, seen);
        return slammings.bestQuestion(now);
    }

    public int weathers(int slot, int n) {
        int refused = weatherRefusal(slot, n, true);
        if (refused != 0) {
            return refused;
        }
        skies.search(now, seen, n);
        return skies.fitting();
    }

    public int weather(int slot, int n, int day) {
        int refused = weatherRefusal(slot, n, day >= 0 && day < n);
        if (refused != 0) {
            return refused;
        }
        skies.search(now, seen, n);
        return skies.thawOfFirst(day);
    }

    public int warmth(int slot, int n, int what) {
        int refused = weatherRefusal(slot, n, isEither(what));
        if (refused != 0) {
            return refused;
        }
        skies.search(now, seen, n);
        return what == 0 ? skies.leastSum() : skies.greatestSum();
    }

    // ---- chances ----

    public long chance(int icicle, int day, int what) {
        if (!isIcicle(icicle) || !isDay(day) || !isEither(what)) {
            return NO_SUCH;
        }
        chances.weigh(now, winter, now.eaveOf[icicle], now.lengthHung[icicle], day);
        long above = chances.weight[day];
        long below = chances.whole[day];
        long common = greatestDivisor(above, below);
        if (common <= 0) {
            return NO_SUCH;
        }
        return what == 0 ? above / common : below / common;
    }

    public int likely(int icicle) {
        if (!isIcicle(icicle)) {
            return NO_SUCH;
        }
        chances.weigh(now, winter, now.eaveOf[icicle], now.lengthHung[icicle], now.days - 1);
        return chances.likeliestDay(now.days);
    }

    public int surest(int icicle, int day) {
        if (!isIcicle(icicle) || !isDay(day)) {
            return NO_SUCH;
        }
        int found = NONE;
        long most = 0;
        for (int length = 1; length <= MOST_LENGTH; length++) {
            chances.weigh(now, winter, now.eaveOf[icicle], length, day);
            if (chances.weight[day] > most) {
                most = chances.weight[day];
                found = length;
            }
        }
        return found;
    }

    // ---- walks and clerks ----

    public int walk() {
        if (now.days == 0 || now.eaves == 0) {
            return NO_SUCH;
        }
        walker.plan(now, winter);
        return walker.leastOfAll;
    }

    public int walks(int day) {
        if (!isDay(day) || now.eaves == 0) {
            return NO_SUCH;
        }
        walker.plan(now, winter);
        return walker.eaveOfFirst(day);
    }

    public int ways() {
        if (now.days == 0 || now.eaves == 0) {
            return NO_SUCH;
        }
        walker.plan(now, winter);
        return walker.howMany();
    }

    public int rests() {
        if (!isTold()) {
            return NO_SUCH;
        }
        clerks.compare(now, winter);
        return clerks.resting;
    }

    public int rest() {
        if (!isTold()) {
            return NO_SUCH;
        }
        clerks.compare(now, winter);
        return clerks.first;
    }

    // ---- acts ----

    public int door(int eave, int day) {
        if (!isEave(eave) || !isDay(day)) {
            return NO_SUCH;
        }
        if (!now.acts.add(eave, day)) {
            return REFUSED;
        }
        winter.passOver(now);
        return winter.fallsUnder(now, eave, day);
    }

    public int ring(int day) {
        if (!isDay(day)) {
            return NO_SUCH;
        }
        if (!now.acts.add(NONE, day)) {
            return REFUSED;
        }
        winter.passOver(now);
        return Integer.bitCount(winter.fallenOn(now, day));
    }

    public int undo() {
        if (!isTold()) {
            return NO_SUCH;
        }
        if (!now.acts.takeBack()) {
            return REFUSED;
        }
        winter.passOver(now);
        return now.acts.done;
    }

    public int anew() {
        if (!isTold()) {
            return NO_SUCH;
        }
        int were = now.acts.done;
        now.acts.clear();
        winter.passOver(now);
        return were;
    }

    // ---- winters drawn ----

    public int drawn(int seed, int what) {
        if (!isTold() || !isSeed(seed) || what < 0 || what > 2) {
            return NO_SUCH;
        }
        drawWinter(seed);
        if (what == 0) {
            return whatIf.warm;
        }
        int last = now.days - 1;
        return what == 1 ? whatIf.fallenBy(now, last) : whatIf.timeAt(now, NONE, last);
    }

    public int luck(int seed, int n, int icicle, int day) {
        if (!isIcicle(icicle) || !isDay(day) || !isSeed(seed) || n < 1 || n > MOST_WINTERS) {
            return NO_SUCH;
        }
        int many = 0;
        for (int i = 0; i < n; i++) {
            drawWinter((long) seed + i);
            if (whatIf.fellBy(icicle, day)) {
                many++;
            }
        }
        return many;
    }

    // ---- what is held ----

    public int hung(int icicle, int n) {
        if (!isIcicle(icicle) || n < 1 || n > MOST_LENGTH) {
            return NO_SUCH;
        }
        if (now.acts.done > 0) {
            return REFUSED;
        }
        int was = now.lengthHung[icicle];
        now.lengthHung[icicle] = n;
        winter.passOver(now);
        return was;
    }

    public int count(int what) {
        switch (what) {
            case 0:
                return now.slamTakes;
            case 1:
                return now.bellTakes;
            case 2:
                return now.odds;
            case 3:
                return now.days;
            case 4:
                return now.eaves;
            case 5:
                return now.icicles;
            case 6:
                return now.works;
            case 7:
                return now.acts.done;
            case 8:
                return now.lines;
            case 9:
                return tape.filled;
            case 10:
                return slotsLaid();
            default:
                return NONE;
        }
    }

    public int image(int k) {
        if (k < 0 || k >= IMAGES) {
            return NO_SUCH;
        }
        images[k].copyFrom(now);
        kept[k] = true;
        return 0;
    }

    public int back(int k) {
        if (k < 0 || k >= IMAGES) {
            return NO_SUCH;
        }
        if (!kept[k]) {
            return NOTHING;
        }
        now.copyFrom(images[k]);
        winter.passOver(now);
        return 0;
    }

    public int row(int slot, int width, int n) {
        if (!isSlot(slot) || width < 0 || width >= WIDTHS || n > MOST_NUMBERS) {
            return NO_SUCH;
        }
        if (n < 0) {
            return BELOW_ZERO;
        }
        slots[slot].lay(width, n);
        return 0;
    }

    public int write(int slot, int i, long v) {
        if (!isSlot(slot)) {
            return NO_SUCH;
        }
        Slot target = slots[slot];
        if (!target.laid) {
            return NOTHING;
        }
        if (i < 0 || i >= target.held) {
            return BEYOND;
        }
        target.numbers[i] = target.cut(v);
        return 0;
    }

    public int paste(int slot, int i, int to, int k, int n) {
        if (!isSlot(slot) || !isSlot(to)) {
            return NO_SUCH;
        }
        Slot source = slots[slot];
        Slot target = slots[to];
        if (!source.laid || !target.laid) {
            return NOTHING;
        }
        if (source.width != target.width) {
            return UNLIKE;
        }
        if (!source.covers(i, n) || !target.covers(k, n)) {
            return BEYOND;
        }
        System.arraycopy(source.numbers, i, target.numbers, k, n);
        return 0;
    }

    // ---- what there is ----

    private boolean isTold() {
        return now.lines > 0;
    }

    private boolean isDay(int day) {
        return day >= 0 && day < now.days;
    }

    private boolean isEave(int eave) {
        return eave >= 0 && eave < now.eaves;
    }

    private boolean areEaves(int set) {
        return set >= 0 && set < 1 << now.eaves;
    }

    private boolean isIcicle(int icicle) {
        return icicle >= 0 && icicle < now.icicles;
    }

    private boolean isWork(int work) {
        return work >= 0 && work < now.works;
    }

    private static boolean isEither(int what) {
        return what == 0 || what == 1;
    }

    private static boolean isSeed(int seed) {
        return seed >= 0 && seed <= MOST_SEED;
    }

    private static boolean isSlot(int slot) {
        return slot >= 0 && slot < SLOTS;
    }

    private int slotsLaid() {
        int many = 0;
        for (int slot = 0; slot < SLOTS; slot++) {
            if (slots[slot].laid) {
                many++;
            }
        }
        return many;
    }

    // ---- helpers of the questions ----

    /** An icicle falls on a day by the lengths above all losses ahead of it, up to that day's own. */
    private int leastSize(int icicle, int day) {
        int lost = 0;
        int most = 0;
        for (int ahead = 0; ahead < day; ahead++) {
            lost += winter.lossOn(now, now.eaveOf[icicle], ahead);
            most = Math.max(most, lost);
        }
        return most + 1;
    }

    private int mostSize(int icicle, int day) {
        return Math.min(MOST_LENGTH, winter.lossThrough(now, now.eaveOf[icicle], day));
    }

    private int bestLength(int icicle) {
        int found = 1;
        int least = offIfHung(icicle, 1);
        for (int length = 2; length <= MOST_LENGTH; length++) {
            int off = offIfHung(icicle, length);
            if (off < least) {
                least = off;
                found = length;
            }
        }
        return found;
    }

    private int offIfHung(int icicle, int length) {
        System.arraycopy(winter.fall, 0, whatIf.fall, 0, MOST_ICICLES);
        whatIf.fall[icicle] = winter.fallOf(now, now.eaveOf[icicle], length);
        return whatIf.offTogether(now);
    }

    /** On a line of eaves a shortest way goes to the nearer end of the set first, then to the other. */
    private static int leastSteps(int from, int set) {
        int lowest = NONE;
        int highest = NONE;
        for (int eave = 0; eave < MOST_EAVES; eave++) {
            if ((set >> eave & 1) != 0) {
                lowest = lowest == NONE ? eave : lowest;
                highest = eave;
            }
        }
        if (lowest == NONE) {
            return 0;
        }
        return Math.min(Math.abs(from - lowest), Math.abs(from - highest)) + highest - lowest;
    }

    private static int firstStop(int from, int set) {
        int least = leastSteps(from, set);
        for (int eave = 0; eave < MOST_EAVES; eave++) {
            boolean inSet = (set >> eave & 1) != 0;
            if (inSet && Math.abs(from - eave) + leastSteps(eave, set & ~(1 << eave)) == least) {
                return eave;
            }
        }
        return from;
    }

    /** 0 when the slot's row can be asked of (it is read into seen then), else the answer that is due. */
    private int refusal(int slot, boolean others, int days) {
        if (!isSlot(slot) || !isTold() || !others) {
            return NO_SUCH;
        }
        if (!slots[slot].laid) {
            return NOTHING;
        }
        return seen.read(slots[slot], now.icicles, days) ? 0 : NO_SUCH;
    }

    private int weatherRefusal(int slot, int n, boolean others) {
        boolean isLength = n >= 1 && n <= WEATHER_DAYS;
        return refusal(slot, isLength && others, Math.min(n, now.days));
    }

    private static long greatestDivisor(long a, long b) {
        long one = a;
        long two = b;
        for (int step = 0; step < 200 && two > 0; step++) {
            long rest = one % two;
            one = two;
            two = rest;
        }
        return one;
    }

    private void drawWinter(long seed) {
        long x = seed;
        whatIf.warm = 0;
        for (int day = 0; day < now.days; day++) {
            if (now.isThaw[day]) {
                x = (1103515245L * x + 12345L) % 2147483648L;
                if (x / 65536 % 10 < now.odds) {
                    whatIf.warm |= 1 << day;
                }
            }
        }
        whatIf.passOver(now);
    }

    // ---- the tape, and how it is read ----

    private static final class Tape {
        final byte[] bytes = new byte[MOST_BYTES];
        int filled;
        int fault;
        int faultPlace = NONE;
        private int start;
        private int stop;
        private int kind;

        void putFour(int number) {
            for (int shift = 24; shift >= 0; shift -= 8) {
                if (filled < MOST_BYTES) {
                    bytes[filled] = (byte) (number >> shift);
                    filled++;
                }
            }
        }

        /** Whether there is no fault; the draft has the whole street then. */
        boolean readInto(Street draft) {
            draft.clear();
            fault = 0;
            faultPlace = NONE;
            stop = 0;
            advance();
            for (int line = 0; line <= MOST_BYTES && kind != END && fault == 0; line++) {
                if (line == 0) {
                    readFirst(draft);
                } else if (isWord("day")) {
                    readDay(draft);
                } else if (isWord("eave")) {
                    readEave(draft);
                } else if (isWord("icicle")) {
                    readIcicle(draft);
                } else if (isWord("due")) {
                    readDue(draft);
                } else {
                    blame(MISPLACED);
                }
                pass(kind == SIGN);
                draft.lines++;
            }
            return fault == 0;
        }

        private void readFirst(Street draft) {
            pass(isWord("street"));
            draft.slamTakes = numberBehind("slam", 20);
            draft.bellTakes = numberBehind("bell", 20);
            draft.odds = numberBehind("odds", 10);
        }

        private void readDay(Street draft) {
            if (draft.days >= MOST_DAYS) {
                blame(TOO_MANY);
                return;
            }
            pass(isWord("day"));
            boolean frost = isWord("frost");
            int degree = numberBehind(frost ? "frost" : "thaw", 9);
            draft.thaw[draft.days] = frost ? -degree : degree;
            draft.isThaw[draft.days] = !frost;
            draft.days++;
        }

        private void readEave(Street draft) {
            if (draft.eaves >= MOST_EAVES) {
                blame(TOO_MANY);
                return;
            }
            pass(isWord("eave"));
            draft.sun[draft.eaves] = numberBehind("sun", 4);
            draft.eaves++;
        }

        private void readIcicle(Street draft) {
            if (draft.icicles >= MOST_ICICLES) {
                blame(TOO_MANY);
                return;
            }
            int icicle = draft.icicles;
            pass(isWord("icicle"));
            draft.eaveOf[icicle] = numberBehind("at", draft.eaves - 1);
            pass(isWord("length"));
            draft.lengthTold[icicle] = passNumber(1, MOST_LENGTH);
            draft.lengthHung[icicle] = draft.lengthTold[icicle];
            draft.hourOf[icicle] = numberBehind("hour", HOURS - 1);
            draft.icicles++;
        }

        private void readDue(Street draft) {
            if (draft.works >= MOST_WORKS) {
                blame(TOO_MANY);
                return;
            }
            pass(isWord("due"));
            draft.dueHour[draft.works] = numberBehind("hour", HOURS - 1);
            draft.dueDay[draft.works] = numberBehind("on", draft.days - 1);
            draft.works++;
        }

        private int numberBehind(String word, int most) {
            pass(isWord(word));
            return passNumber(0, most);
        }

        private void pass(boolean asDue) {
            if (asDue) {
                advance();
            } else {
                blame(MISPLACED);
            }
        }

        private int passNumber(int least, int most) {
            if (kind != NUMBER) {
                blame(MISPLACED);
                return 0;
            }
            int number = numberHere();
            if (number < least || number > most) {
                blame(OUT_OF_BOUNDS);
                return 0;
            }
            advance();
            return number;
        }

        /** Beyond 100 a number stays there: it is out of all bounds, however long. */
        private int numberHere() {
            int number = 0;
            for (int i = start; i < stop; i++) {
                number = Math.min(100, number * 10 + bytes[i] - '0');
            }
            return number;
        }

        /** Only the first fault counts, by its place: reading never goes back. */
        private void blame(int what) {
            if (fault == 0) {
                fault = what;
                faultPlace = start;
            }
        }

        private boolean isWord(String word) {
            if (kind != WORD || stop - start != word.length()) {
                return false;
            }
            for (int i = 0; i < word.length(); i++) {
                if (bytes[start + i] != word.charAt(i)) {
                    return false;
                }
            }
            return true;
        }

        private void advance() {
            start = stop;
            while (start < filled && kindOf(bytes[start]) == BLANK) {
                start++;
            }
            kind = start < filled ? kindOf(bytes[start]) : END;
            stop = kind == END ? start : start + 1;
            boolean isLong = kind == WORD || kind == NUMBER;
            while (isLong && stop < filled && kindOf(bytes[stop]) == kind) {
                stop++;
            }
        }

        private static int kindOf(int sign) {
            if (sign == ' ' || sign == '\n') {
                return BLANK;
            }
            if (sign >= 'a' && sign <= 'z') {
                return WORD;
            }
            if (sign >= '0' && sign <= '9') {
                return NUMBER;
            }
            return sign == ';' ? SIGN : NO_TOKEN;
        }
    }

    // ---- the street, and acts ----

    private static final class Street {
        int slamTakes;
        int bellTakes;
        int odds;
        int days;
        int eaves;
        int icicles;
        int works;
        int lines;
        final int[] thaw = new int[MOST_DAYS];
        final boolean[] isThaw = new boolean[MOST_DAYS];
        final int[] sun = new int[MOST_EAVES];
        final int[] eaveOf = new int[MOST_ICICLES];
        final int[] lengthTold = new int[MOST_ICICLES];
        final int[] lengthHung = new int[MOST_ICICLES];
        final int[] hourOf = new int[MOST_ICICLES];
        final int[] dueHour = new int[MOST_WORKS];
        final int[] dueDay = new int[MOST_WORKS];
        final Acts acts = new Acts();

        void clear() {
            slamTakes = 0;
            bellTakes = 0;
            odds = 0;
            days = 0;
            eaves = 0;
            icicles = 0;
            works = 0;
            lines = 0;
            acts.clear();
        }

        void copyFrom(Street from) {
            slamTakes = from.slamTakes;
            bellTakes = from.bellTakes;
            odds = from.odds;
            days = from.days;
            eaves = from.eaves;
            icicles = from.icicles;
            works = from.works;
            lines = from.lines;
            System.arraycopy(from.thaw, 0, thaw, 0, MOST_DAYS);
            for (int day = 0; day < MOST_DAYS; day++) {
                isThaw[day] = from.isThaw[day];
            }
            System.arraycopy(from.sun, 0, sun, 0, MOST_EAVES);
            System.arraycopy(from.eaveOf, 0, eaveOf, 0, MOST_ICICLES);
            System.arraycopy(from.lengthTold, 0, lengthTold, 0, MOST_ICICLES);
            System.arraycopy(from.lengthHung, 0, lengthHung, 0, MOST_ICICLES);
            System.arraycopy(from.hourOf, 0, hourOf, 0, MOST_ICICLES);
            System.arraycopy(from.dueHour, 0, dueHour, 0, MOST_WORKS);
            System.arraycopy(from.dueDay, 0, dueDay, 0, MOST_WORKS);
            acts.copyFrom(from.acts);
        }

        /** Frost makes icicles grow wherever they hang; only thaw asks for the sun. */
        int meltOn(int eave, int day) {
            return thaw[day] < 0 ? thaw[day] : thaw[day] * sun[eave];
        }

        int takenByActs(int eave, int day) {
            return slamTakes * acts.slammed[eave][day] + bellTakes * acts.rung[day];
        }
    }

    private static final class Acts {
        int done;
        final int[] eaves = new int[MOST_ACTS];
        final int[] days = new int[MOST_ACTS];
        final int[][] slammed = new int[MOST_EAVES][MOST_DAYS];
        final int[] rung = new int[MOST_DAYS];

        /** A bell is an act at no eave (NONE). */
        boolean add(int eave, int day) {
            if (done >= MOST_ACTS) {
                return false;
            }
            eaves[done] = eave;
            days[done] = day;
            tally(eave, day, 1);
            done++;
            return true;
        }

        boolean takeBack() {
            if (done <= 0) {
                return false;
            }
            done--;
            tally(eaves[done], days[done], -1);
            return true;
        }

        void clear() {
            for (int act = done; act > 0; act--) {
                takeBack();
            }
        }

        void copyFrom(Acts from) {
            clear();
            for (int act = 0; act < from.done; act++) {
                add(from.eaves[act], from.days[act]);
            }
        }

        private void tally(int eave, int day, int more) {
            if (eave == NONE) {
                rung[day] += more;
            } else {
                slammed[eave][day] += more;
            }
        }
    }

    // ---- a winter: the street's days with what is otherwise, and when each icicle falls by it ----

    private static final class Winter {
        int warm;
        int doorEave = NONE;
        int doorDay = NONE;
        final int[] fall = new int[MOST_ICICLES];

        void passOver(Street street) {
            for (int icicle = 0; icicle < street.icicles; icicle++) {
                fall[icicle] = fallOf(street, street.eaveOf[icicle], street.lengthHung[icicle]);
            }
        }

        void passUnder(Street street, int eave) {
            for (int icicle = 0; icicle < street.icicles; icicle++) {
                if (street.eaveOf[icicle] == eave) {
                    fall[icicle] = fallOf(street, eave, street.lengthHung[icicle]);
                }
            }
        }

        int fallOf(Street street, int eave, int length) {
            int left = length;
            for (int day = 0; day < street.days; day++) {
                left -= lossOn(street, eave, day);
                if (left <= 0) {
                    return day;
                }
            }
            return NONE;
        }

        int lossOn(Street street, int eave, int day) {
            int loss = street.meltOn(eave, day) + street.takenByActs(eave, day);
            if ((warm >> day & 1) != 0) {
                loss += street.sun[eave];
            }
            if (eave == doorEave && day == doorDay) {
                loss += street.slamTakes;
            }
            return loss;
        }

        int lossThrough(Street street, int eave, int last) {
            int loss = 0;
            for (int day = 0; day <= last; day++) {
                loss += lossOn(street, eave, day);
            }
            return loss;
        }

        boolean fellBy(int icicle, int day) {
            return fall[icicle] != NONE && fall[icicle] <= day;
        }

        int fallenOn(Street street, int day) {
            int bits = 0;
            for (int icicle = 0; icicle < street.icicles; icicle++) {
                if (fall[icicle] == day) {
                    bits |= 1 << icicle;
                }
            }
            return bits;
        }

        int fallenBy(Street street, int day) {
            int bits = 0;
            for (int icicle = 0; icicle < street.icicles; icicle++) {
                if (fellBy(icicle, day)) {
                    bits |= 1 << icicle;
                }
            }
            return bits;
        }

        int fallsUnder(Street street, int eave, int day) {
            int many = 0;
            for (int icicle = 0; icicle < street.icicles; icicle++) {
                if (street.eaveOf[icicle] == eave && fall[icicle] == day) {
                    many++;
                }
            }
            return many;
        }

        /** The time of an eave, or of the whole street (eave NONE). */
        int timeAt(Street street, int eave, int day) {
            int last = NONE;
            int hour = NONE;
            for (int icicle = 0; icicle < street.icicles; icicle++) {
                boolean here = eave == NONE || street.eaveOf[icicle] == eave;
                if (here && fellBy(icicle, day) && fall[icicle] >= last) {
                    last = fall[icicle];
                    hour = street.hourOf[icicle];
                }
            }
            return hour;
        }

        int daysOfOneTime(Street street, int eave, int another) {
            int bits = 0;
            for (int day = 0; day < street.days; day++) {
                int told = timeAt(street, eave, day);
                if (told != NONE && told == timeAt(street, another, day)) {
                    bits |= 1 << day;
                }
            }
            return bits;
        }

        int lateness(Street street, int work) {
            for (int icicle = 0; icicle < street.icicles; icicle++) {
                if (street.hourOf[icicle] == street.dueHour[work]) {
                    return fall[icicle] == NONE ? LATE_FOR_EVER : fall[icicle] - street.dueDay[work];
                }
            }
            return LATE_FOR_EVER;
        }

        int offTogether(Street street) {
            int sum = 0;
            for (int work = 0; work < street.works; work++) {
                sum += Math.abs(lateness(street, work));
            }
            return sum;
        }
    }

    // ---- slots, and what was seen ----

    private static final class Slot {
        final long[] numbers = new long[MOST_NUMBERS];
        boolean laid;
        int width;
        int held;

        void lay(int newWidth, int n) {
            Arrays.fill(numbers, 0L);
            laid = true;
            width = newWidth;
            held = n;
        }

        long cut(long v) {
            switch (width) {
                case 0:
                    return (byte) v;
                case 1:
                    return (short) v;
                case 2:
                    return (int) v;
                default:
                    return v;
            }
        }

        boolean covers(int from, int n) {
            return from >= 0 && n >= 0 && n <= held && from <= held - n;
        }
    }

    private static final class Seen {
        final int[] fall = new int[MOST_ICICLES];
        boolean torn;

        /** Whether the row is of icicles and days that there are (days below the given number). */
        boolean read(Slot row, int icicles, int days) {
            Arrays.fill(fall, UNSEEN);
            torn = false;
            if (row.held % 2 != 0) {
                return false;
            }
            for (int i = 0; i + 1 < row.held; i += 2) {
                long icicle = row.numbers[i];
                long day = row.numbers[i + 1];
                if (icicle < 0 || icicle >= icicles || day < NONE || day >= days) {
                    return false;
                }
                note((int) icicle, (int) day);
            }
            return true;
        }

        /** An icicle seen to fall on two days: nothing can fit that. */
        private void note(int icicle, int day) {
            if (fall[icicle] != UNSEEN && fall[icicle] != day) {
                torn = true;
            }
            fall[icicle] = day;
        }

        boolean fits(Street street, Winter winter) {
            if (torn) {
                return false;
            }
            for (int icicle = 0; icicle < street.icicles; icicle++) {
                if (fall[icicle] != UNSEEN && fall[icicle] != winter.fall[icicle]) {
                    return false;
                }
            }
            return true;
        }
    }

    private static final class Slams {
        int fitting;
        int first;
        final int[][] tally = new int[MOST_ICICLES][MOST_DAYS + 1];

        void search(Street street, Winter winter, Seen seen) {
            fitting = 0;
            first = NONE;
            for (int icicle = 0; icicle < MOST_ICICLES; icicle++) {
                Arrays.fill(tally[icicle], 0);
            }
            winter.warm = 0;
            winter.passOver(street);
            for (int eave = 0; eave < street.eaves; eave++) {
                searchUnder(street, winter, seen, eave);
            }
        }

        /** A door is felt under its own eave alone: all others stay as they were reckoned. */
        private void searchUnder(Street street, Winter winter, Seen seen, int eave) {
            winter.doorEave = eave;
            for (int day = 0; day < street.days; day++) {
                winter.doorDay = day;
                winter.passUnder(street, eave);
                if (seen.fits(street, winter)) {
                    note(street, winter);
                }
            }
            winter.doorEave = NONE;
            winter.doorDay = NONE;
            winter.passUnder(street, eave);
        }

        private void note(Street street, Winter winter) {
            if (fitting == 0) {
                first = 100 * winter.doorEave + winter.doorDay;
            }
            fitting++;
            for (int icicle = 0; icicle < street.icicles; icicle++) {
                tally[icicle][winter.fall[icicle] + 1]++;
            }
        }

        int bestQuestion(Street street) {
            int found = NONE;
            int least = fitting;
            for (int icicle = 0; icicle < street.icicles; icicle++) {
                int most = 0;
                for (int i = 0; i <= street.days; i++) {
                    most = Math.max(most, tally[icicle][i]);
                }
                if (most < least) {
                    least = most;
                    found = icicle;
                }
            }
            return found;
        }
    }

    /**
     * Weathers by their sums: whether an icicle has fallen by a day hangs on the sum of thaws up to it
     * alone, so what was seen is a least and a greatest sum for each day.
     */
    private static final class Weathers {
        final int[] least = new int[WEATHER_DAYS];
        final int[] most = new int[WEATHER_DAYS];
        final int[][] goings = new int[WEATHER_DAYS + 1][MOST_WARMTH + 1];
        int days;

        void search(Street street, Seen seen, int n) {
            days = Math.max(1, Math.min(n, WEATHER_DAYS));
            for (int day = 0; day < WEATHER_DAYS; day++) {
                least[day] = 0;
                most[day] = MOST_WARMTH;
            }
            for (int icicle = 0; icicle < street.icicles; icicle++) {
                if (seen.fall[icicle] != UNSEEN) {
                    bound(sumNeeded(street, icicle), seen.fall[icicle]);
                }
            }
            if (seen.torn) {
                most[0] = NONE;
            }
            countGoings();
        }

        private static int sumNeeded(Street street, int icicle) {
            int sun = street.sun[street.eaveOf[icicle]];
            if (sun <= 0) {
                return MOST_WARMTH + 1;
            }
            return (street.lengthHung[icicle] + sun - 1) / sun;
        }

        private void bound(int needed, int fall) {
            int ahead = fall == NONE ? days - 1 : fall - 1;
            if (ahead >= 0 && ahead < WEATHER_DAYS) {
                most[ahead] = Math.min(most[ahead], needed - 1);
            }
            if (fall >= 0 && fall < WEATHER_DAYS) {
                least[fall] = Math.max(least[fall], needed);
            }
        }

        /** goings[d][s]: rows of thaws from day d on that fit, with a sum of s ahead of it. */
        private void countGoings() {
            Arrays.fill(goings[days], 1);
            for (int day = days - 1; day >= 0; day--) {
                for (int sum = 0; sum <= MOST_WARMTH; sum++) {
                    int many = 0;
                    for (int thaw = 0; thaw <= WEATHER_THAW; thaw++) {
                        many += goingsBy(day, sum + thaw);
                    }
                    goings[day][sum] = many;
                }
            }
        }

        private int goingsBy(int day, int sum) {
            boolean fits = sum >= least[day] && sum <= most[day] && sum <= MOST_WARMTH;
            return fits ? goings[day + 1][sum] : 0;
        }

        int fitting() {
            return goings[0][0];
        }

        int thawOfFirst(int wanted) {
            int sum = 0;
            int found = NONE;
            for (int day = 0; day <= wanted && day < days; day++) {
                found = NONE;
                for (int thaw = 0; thaw <= WEATHER_THAW && found == NONE; thaw++) {
                    if (goingsBy(day, sum + thaw) > 0) {
                        found = thaw;
                    }
                }
                if (found == NONE) {
                    return NONE;
                }
                sum += found;
            }
            return found;
        }

        int leastSum() {
            int sums = sumsReached();
            for (int sum = 0; sum <= MOST_WARMTH; sum++) {
                if ((sums >> sum & 1) != 0) {
                    return sum;
                }
            }
            return NONE;
        }

        int greatestSum() {
            int sums = sumsReached();
            for (int sum = MOST_WARMTH; sum >= 0; sum--) {
                if ((sums >> sum & 1) != 0) {
                    return sum;
                }
            }
            return NONE;
        }

        private int sumsReached() {
            int sums = 1;
            for (int day = 0; day < days; day++) {
                int more = sums | sums << 1 | sums << 2 | sums << 3;
                sums = 0;
                for (int sum = least[day]; sum <= most[day] && sum <= MOST_WARMTH; sum++) {
                    sums |= more & 1 << sum;
                }
            }
            return sums;
        }
    }

    /**
     * Chances as whole weights out of powers of ten: how far an icicle is gone hangs only on how many
     * of the days were warm, so the ones that still hang are kept by that number.
     */
    private static final class Chances {
        final long[] hanging = new long[MOST_DAYS + 1];
        final long[] weight = new long[MOST_DAYS];
        final long[] whole = new long[MOST_DAYS];
        private int mostWarm;

        void weigh(Street street, Winter winter, int eave, int length, int last) {
            Arrays.fill(hanging, 0L);
            hanging[0] = 1;
            mostWarm = 0;
            long all = 1;
            int left = length;
            for (int day = 0; day <= last && day < street.days; day++) {
                if (street.isThaw[day]) {
                    warmOrNot(street.odds);
                    all *= 10;
                }
                left -= winter.lossOn(street, eave, day);
                weight[day] = letFall(left, street.sun[eave]);
                whole[day] = all;
            }
        }

        private void warmOrNot(int odds) {
            mostWarm = Math.min(mostWarm + 1, MOST_DAYS);
            for (int warm = mostWarm; warm > 0; warm--) {
                hanging[warm] = hanging[warm] * (10 - odds) + hanging[warm - 1] * odds;
            }
            hanging[0] *= 10 - odds;
        }

        private long letFall(int left, int sun) {
            long fallen = 0;
            for (int warm = 0; warm <= mostWarm; warm++) {
                if (left - warm * sun <= 0) {
                    fallen += hanging[warm];
                    hanging[warm] = 0;
                }
            }
            return fallen;
        }

        int likeliestDay(int days) {
            long most = 0;
            for (int warm = 0; warm <= mostWarm; warm++) {
                most += hanging[warm];
            }
            int found = NONE;
            for (int day = 0; day < days; day++) {
                long here = whole[day] > 0 ? weight[day] * (whole[days - 1] / whole[day]) : 0;
                if (here > most) {
                    most = here;
                    found = day;
                }
            }
            return found;
        }
    }

    // ---- who walks, who rests ----

    private static final class Walker {
        int leastOfAll;
        final int[][] struck = new int[MOST_DAYS][MOST_EAVES];
        final int[][] least = new int[MOST_DAYS][MOST_EAVES];
        final int[][] many = new int[MOST_DAYS][MOST_EAVES];
        private int days;
        private int eaves;

        /** least and many are of the walks from a day under an eave to the last day. */
        void plan(Street street, Winter winter) {
            days = street.days;
            eaves = street.eaves;
            for (int day = days - 1; day >= 0; day--) {
                for (int eave = 0; eave < eaves; eave++) {
                    struck[day][eave] = winter.fallsUnder(street, eave, day);
                    planFrom(day, eave);
                }
            }
            leastOfAll = least[0][0];
            for (int eave = 1; eave < eaves; eave++) {
                leastOfAll = Math.min(leastOfAll, least[0][eave]);
            }
        }

        private void planFrom(int day, int eave) {
            least[day][eave] = struck[day][eave];
            many[day][eave] = 1;
            if (day + 1 >= days) {
                return;
            }
            int lowest = Math.max(0, eave - 1);
            int highest = Math.min(eaves - 1, eave + 1);
            int fewest = least[day + 1][eave];
            for (int beside = lowest; beside <= highest; beside++) {
                fewest = Math.min(fewest, least[day + 1][beside]);
            }
            int sum = 0;
            for (int beside = lowest; beside <= highest; beside++) {
                if (least[day + 1][beside] == fewest) {
                    sum += many[day + 1][beside];
                }
            }
            least[day][eave] += fewest;
            many[day][eave] = sum;
        }

        int howMany() {
            int sum = 0;
            for (int eave = 0; eave < eaves; eave++) {
                if (least[0][eave] == leastOfAll) {
                    sum += many[0][eave];
                }
            }
            return sum;
        }

        int eaveOfFirst(int wanted) {
            int at = firstOf(0, 0, eaves - 1, leastOfAll);
            for (int day = 1; day <= wanted && day < days; day++) {
                int rest = least[day - 1][at] - struck[day - 1][at];
                at = firstOf(day, Math.max(0, at - 1), Math.min(eaves - 1, at + 1), rest);
            }
            return at;
        }

        private int firstOf(int day, int lowest, int highest, int due) {
            for (int eave = lowest; eave <= highest; eave++) {
                if (least[day][eave] == due) {
                    return eave;
                }
            }
            return lowest;
        }
    }

    private static final class Clerks {
        int resting;
        int first;
        final int[][] shared = new int[MOST_EAVES][MOST_EAVES];

        void compare(Street street, Winter winter) {
            for (int one = 0; one < street.eaves; one++) {
                for (int two = 0; two < street.eaves; two++) {
                    shared[one][two] = Integer.bitCount(winter.daysOfOneTime(street, one, two));
                }
            }
            resting = 0;
            first = NONE;
            for (int one = 0; one < street.eaves; one++) {
                for (int two = 0; two < street.eaves; two++) {
                    if (isRest(street, one, two)) {
                        first = resting == 0 ? 10 * one + two : first;
                        resting++;
                    }
                }
            }
        }

        private boolean isRest(Street street, int one, int two) {
            for (int eave = 0; eave < street.eaves; eave++) {
                boolean firstHasMore = firstHas(street, eave, two) > firstHas(street, one, two);
                boolean secondHasMore = secondHas(street, one, eave) > secondHas(street, one, two);
                if (firstHasMore || secondHasMore) {
                    return false;
                }
            }
            return true;
        }

        private int firstHas(Street street, int one, int two) {
            return shared[one][two] + street.sun[one];
        }

        private int secondHas(Street street, int one, int two) {
            return street.days - shared[one][two] + street.sun[two];
        }
    }
}
