import java.math.BigInteger;
import java.util.ArrayList;
import java.util.Arrays;
import java.util.List;
import java.util.Random;

/**
 * Long runs of calls on many streets, each answer held against a model that takes the document's words
 * in the slowest way: every warm and cold winter, every walk, every order, every weather is tried.
 */
public final class OracleTest {
    private static final Random CHOICE = new Random(20261118L);

    public static void main(String[] args) {
        for (int run = 0; run < 260 && Due.wrongs() == 0; run++) {
            runOne(run);
        }
        Due.finish();
    }

    private static void runOne(int run) {
        IcicleClock x = new IcicleClock();
        Model m = new Model();
        int calls = 0;
        while (calls < 480) {
            if (calls == 0 || CHOICE.nextInt(60) == 0) {
                calls += tellBoth(run, x, m);
            }
            Call call = Call.choose(CHOICE, m);
            Due.due("run " + run + " " + call + " of " + m.text(), call.ask(x), call.ask(m));
            calls++;
        }
    }

    private static int tellBoth(int run, IcicleClock x, Model m) {
        byte[] text = Texts.choose(CHOICE).getBytes(java.nio.charset.StandardCharsets.ISO_8859_1);
        Due.due("end(0)", x.end(0), m.end(0));
        Due.feedBytes(x, text);
        m.tape = text;
        Due.due("run " + run + " count(9)", x.count(9), text.length);
        Due.due("run " + run + " street() of " + new String(text), x.street(), m.street());
        Due.due("run " + run + " fault(0)", x.fault(0), m.fault(0));
        Due.due("run " + run + " fault(1)", x.fault(1), m.fault(1));
        return text.length / 20 + 7;
    }
}

/** Texts of streets, some of them spoilt. */
final class Texts {
    private Texts() {
    }

    static String choose(Random r) {
        int days = r.nextInt(6) == 0 ? r.nextInt(15) : r.nextInt(8);
        int eaves = r.nextInt(6);
        int icicles = eaves == 0 ? 0 : r.nextInt(9);
        int works = days == 0 ? 0 : r.nextInt(7);
        List<String> lines = new ArrayList<>();
        for (int i = 0; i < days; i++) {
            lines.add(r.nextInt(4) == 0 ? "day frost " + r.nextInt(10) : "day thaw " + r.nextInt(r.nextInt(2) == 0 ? 10 : 4));
        }
        for (int i = 0; i < eaves; i++) {
            lines.add("eave sun " + r.nextInt(5));
        }
        int longest = r.nextInt(3) == 0 ? 99 : 25;
        for (int i = 0; i < icicles; i++) {
            lines.add("icicle at " + r.nextInt(eaves) + " length " + (1 + r.nextInt(longest)) + " hour " + hour(r));
        }
        for (int i = 0; i < works; i++) {
            lines.add("due hour " + hour(r) + " on " + r.nextInt(days));
        }
        StringBuilder text = new StringBuilder();
        text.append("street slam ").append(r.nextInt(21)).append(" bell ").append(r.nextInt(21));
        text.append(" odds ").append(r.nextInt(11)).append(";");
        for (String line : lines) {
            text.append(r.nextInt(5) == 0 ? "\n" : "").append(line).append(r.nextInt(9) == 0 ? " ;" : ";");
        }
        String whole = r.nextInt(12) == 0 ? "" : text.toString();
        whole = r.nextInt(5) == 0 ? spoil(whole, r) : whole;
        return whole.length() > 1000 ? whole.substring(0, 1000) : whole;
    }

    private static int hour(Random r) {
        return r.nextInt(3) == 0 ? r.nextInt(24) : 6 + r.nextInt(3);
    }

    private static String spoil(String text, Random r) {
        StringBuilder spoilt = new StringBuilder(text);
        int times = 1 + r.nextInt(2);
        for (int i = 0; i < times && spoilt.length() > 0; i++) {
            int at = r.nextInt(spoilt.length());
            String[] bits = {";", "9", "day", " ", "street", "A", "\t", "99999999999999999999", "eave sun 1;", "-",
                "" + (char) 233, "day thaw 1;day thaw 1;day thaw 1;day thaw 1;day thaw 1;day thaw 1;day thaw 1;"};
            switch (r.nextInt(4)) {
                case 0: spoilt.deleteCharAt(at); break;
                case 1: spoilt.insert(at, bits[r.nextInt(bits.length)]); break;
                case 2: spoilt.setLength(at); break;
                default:
                    int behind = spoilt.indexOf(";", at);
                    spoilt.insert(behind < 0 ? 0 : behind + 1, bits[r.nextInt(bits.length)]);
            }
        }
        return spoilt.toString();
    }
}

/** One call with its arguments. */
final class Call {
    private final String name;
    private final long[] a;

    private Call(String name, long... a) {
        this.name = name;
        this.a = a;
    }

    @Override
    public String toString() {
        return name + Arrays.toString(a);
    }

    private static final String[] NAMES = {"end", "street", "fault", "day", "melt", "icicle", "work", "eave", "falls",
        "length", "longest", "drops", "hang", "under", "rush", "time", "hour", "meet", "apart", "late", "lates", "off",
        "worst", "size", "sizes", "place", "best", "offs", "doors", "tells", "next", "barest", "round", "rounds",
        "slams", "slam", "calm", "ask", "weathers", "weather", "warmth", "chance", "likely", "surest", "walk", "walks",
        "ways", "rests", "rest", "door", "door", "ring", "undo", "anew", "drawn", "luck", "hung", "count", "image",
        "back", "row", "write", "write", "write", "paste", "see", "see", "see"};

    private static int near(Random r, int count) {
        int pick = r.nextInt(14);
        if (pick == 0) {
            return -1 - r.nextInt(2);
        }
        if (pick == 1) {
            return count + r.nextInt(2);
        }
        if (pick == 2 && r.nextInt(5) == 0) {
            return r.nextBoolean() ? Integer.MAX_VALUE : Integer.MIN_VALUE;
        }
        return count <= 0 ? r.nextInt(2) : r.nextInt(count);
    }

    static Call choose(Random r, Model m) {
        String name = NAMES[r.nextInt(NAMES.length)];
        int i = near(r, m.ices.size());
        int d = near(r, m.thaws.size());
        int e = near(r, m.suns.size());
        int w = near(r, m.dues.size());
        int s = near(r, 4);
        switch (name) {
            case "end": return r.nextInt(4) == 0 ? new Call(name, near(r, m.tape.length + 1)) : new Call("fault", near(r, 2));
            case "street": return r.nextInt(30) == 0 ? new Call(name) : new Call("off");
            case "fault": return new Call(name, near(r, 2));
            case "day": case "drops": case "hang": case "hour": case "walks": case "ring": return new Call(name, d);
            case "melt": case "time": case "next": case "door": return new Call(name, e, d);
            case "icicle": return new Call(name, i, near(r, 3));
            case "work": return new Call(name, w, near(r, 2));
            case "eave": case "under": return new Call(name, e);
            case "falls": case "longest": case "best": case "offs": case "likely": return new Call(name, i);
            case "length": case "size": case "sizes": case "place": case "doors": case "surest": return new Call(name, i, d);
            case "meet": case "apart": return new Call(name, e, near(r, m.suns.size()));
            case "late": return new Call(name, w);
            case "tells": return new Call(name, r.nextInt(3) == 0 ? near(r, 24) : 6 + r.nextInt(3));
            case "round": return new Call(name, e, near(r, 1 << m.suns.size()));
            case "rounds": return new Call(name, e, near(r, 1 << m.suns.size()), near(r, 4));
            case "slams": case "slam": case "calm": case "ask": return new Call(name, s);
            case "weathers": return new Call(name, s, 1 + near(r, 5));
            case "weather": return new Call(name, s, 1 + near(r, 5), near(r, 4));
            case "warmth": return new Call(name, s, 1 + near(r, 5), near(r, 2));
            case "chance": return new Call(name, i, d, near(r, 2));
            case "drawn": return new Call(name, seed(r), near(r, 3));
            case "luck": return new Call(name, seed(r), 1 + near(r, 20), i, d);
            case "hung": return new Call(name, i, 1 + near(r, 99));
            case "count": return new Call(name, near(r, 11));
            case "image": case "back": return new Call(name, near(r, 3));
            case "row": return new Call(name, s, near(r, 4), r.nextInt(3) == 0 ? near(r, 61) : 2 * r.nextInt(4));
            case "write": return new Call(name, s, near(r, 6), r.nextInt(6) == 0 ? r.nextLong() : near(r, 4));
            case "paste": return new Call(name, s, near(r, 5), near(r, 4), near(r, 5), near(r, 5));
            case "see": return new Call(name, r.nextInt(4), r.nextInt(4), i, r.nextInt(70));
            default: return new Call(name);
        }
    }

    private static int seed(Random r) {
        int[] edges = {0, 1, 2000000000, 2000000001, -1, 1999999999, Integer.MAX_VALUE};
        return r.nextInt(4) == 0 ? edges[r.nextInt(edges.length)] : r.nextInt(2000000000);
    }

    private int n(int k) {
        return (int) a[k];
    }

    /** A row that tells what truly fell, by one door more or by none: so that something fits. */
    private long seeTruth(Face x, Model m) {
        int icicles = m.ices.size();
        int pairs = icicles == 0 ? 0 : n(1);
        long sum = x.row(n(0), 1, 2 * pairs);
        int door = n(3);
        for (int p = 0; p < pairs; p++) {
            int icicle = Math.floorMod(n(2) + p, icicles);
            sum = sum * 31 + x.write(n(0), 2 * p, icicle);
            int e = m.suns.isEmpty() ? -1 : door % (m.suns.size() + 1);
            int d = m.thaws.isEmpty() ? -1 : door % m.thaws.size();
            sum = sum * 31 + x.write(n(0), 2 * p + 1, m.fallBy(icicle, e, d));
        }
        return sum;
    }

    long ask(IcicleClock x) {
        return ask(new Real(x));
    }

    long ask(Model m) {
        return ask((Face) m);
    }

    private long ask(Face x) {
        switch (name) {
            case "end": return x.end(n(0));
            case "street": return x.street();
            case "fault": return x.fault(n(0));
            case "day": return x.day(n(0));
            case "melt": return x.melt(n(0), n(1));
            case "icicle": return x.icicle(n(0), n(1));
            case "work": return x.work(n(0), n(1));
            case "eave": return x.eave(n(0));
            case "falls": return x.falls(n(0));
            case "length": return x.length(n(0), n(1));
            case "longest": return x.longest(n(0));
            case "drops": return x.drops(n(0));
            case "hang": return x.hang(n(0));
            case "under": return x.under(n(0));
            case "rush": return x.rush();
            case "time": return x.time(n(0), n(1));
            case "hour": return x.hour(n(0));
            case "meet": return x.meet(n(0), n(1));
            case "apart": return x.apart(n(0), n(1));
            case "late": return x.late(n(0));
            case "lates": return x.lates();
            case "off": return x.off();
            case "worst": return x.worst();
            case "size": return x.size(n(0), n(1));
            case "sizes": return x.sizes(n(0), n(1));
            case "place": return x.place(n(0), n(1));
            case "best": return x.best(n(0));
            case "offs": return x.offs(n(0));
            case "doors": return x.doors(n(0), n(1));
            case "tells": return x.tells(n(0));
            case "next": return x.next(n(0), n(1));
            case "barest": return x.barest();
            case "round": return x.round(n(0), n(1));
            case "rounds": return x.rounds(n(0), n(1), n(2));
            default: return askMore(x);
        }
    }

    private long askMore(Face x) {
        switch (name) {
            case "slams": return x.slams(n(0));
            case "slam": return x.slam(n(0));
            case "calm": return x.calm(n(0));
            case "ask": return x.ask(n(0));
            case "weathers": return x.weathers(n(0), n(1));
            case "weather": return x.weather(n(0), n(1), n(2));
            case "warmth": return x.warmth(n(0), n(1), n(2));
            case "chance": return x.chance(n(0), n(1), n(2));
            case "likely": return x.likely(n(0));
            case "surest": return x.surest(n(0), n(1));
            case "walk": return x.walk();
            case "walks": return x.walks(n(0));
            case "ways": return x.ways();
            case "rests": return x.rests();
            case "rest": return x.rest();
            case "door": return x.door(n(0), n(1));
            case "ring": return x.ring(n(0));
            case "undo": return x.undo();
            case "anew": return x.anew();
            case "drawn": return x.drawn(n(0), n(1));
            case "luck": return x.luck(n(0), n(1), n(2), n(3));
            case "hung": return x.hung(n(0), n(1));
            case "count": return x.count(n(0));
            case "image": return x.image(n(0));
            case "back": return x.back(n(0));
            case "row": return x.row(n(0), n(1), n(2));
            case "write": return x.write(n(0), n(1), a[2]);
            case "paste": return x.paste(n(0), n(1), n(2), n(3), n(4));
            case "see": return seeTruth(x, Model.latest);
            default: throw new IllegalStateException(name);
        }
    }
}

/** What both sides are asked. */
interface Face {
    int end(int n);
    int street();
    int fault(int what);
    int day(int day);
    int melt(int eave, int day);
    int icicle(int icicle, int what);
    int work(int work, int what);
    int eave(int eave);
    int falls(int icicle);
    int length(int icicle, int day);
    int longest(int icicle);
    int drops(int day);
    int hang(int day);
    int under(int eave);
    int rush();
    int time(int eave, int day);
    int hour(int day);
    int meet(int eave, int other);
    int apart(int eave, int other);
    int late(int work);
    int lates();
    int off();
    int worst();
    int size(int icicle, int day);
    int sizes(int icicle, int day);
    int place(int icicle, int day);
    int best(int icicle);
    int offs(int icicle);
    int doors(int icicle, int day);
    int tells(int hour);
    int next(int eave, int day);
    int barest();
    int round(int from, int set);
    int rounds(int from, int set, int i);
    int slams(int slot);
    int slam(int slot);
    int calm(int slot);
    int ask(int slot);
    int weathers(int slot, int n);
    int weather(int slot, int n, int day);
    int warmth(int slot, int n, int what);
    long chance(int icicle, int day, int what);
    int likely(int icicle);
    int surest(int icicle, int day);
    int walk();
    int walks(int day);
    int ways();
    int rests();
    int rest();
    int door(int eave, int day);
    int ring(int day);
    int undo();
    int anew();
    int drawn(int seed, int what);
    int luck(int seed, int n, int icicle, int day);
    int hung(int icicle, int n);
    int count(int what);
    int image(int k);
    int back(int k);
    int row(int slot, int width, int n);
    int write(int slot, int i, long v);
    int paste(int slot, int i, int to, int k, int n);
}

final class Real implements Face {
    private final IcicleClock x;

    Real(IcicleClock x) {
        this.x = x;
    }

    public int end(int n) { return x.end(n); }
    public int street() { return x.street(); }
    public int fault(int what) { return x.fault(what); }
    public int day(int day) { return x.day(day); }
    public int melt(int eave, int day) { return x.melt(eave, day); }
    public int icicle(int icicle, int what) { return x.icicle(icicle, what); }
    public int work(int work, int what) { return x.work(work, what); }
    public int eave(int eave) { return x.eave(eave); }
    public int falls(int icicle) { return x.falls(icicle); }
    public int length(int icicle, int day) { return x.length(icicle, day); }
    public int longest(int icicle) { return x.longest(icicle); }
    public int drops(int day) { return x.drops(day); }
    public int hang(int day) { return x.hang(day); }
    public int under(int eave) { return x.under(eave); }
    public int rush() { return x.rush(); }
    public int time(int eave, int day) { return x.time(eave, day); }
    public int hour(int day) { return x.hour(day); }
    public int meet(int eave, int other) { return x.meet(eave, other); }
    public int apart(int eave, int other) { return x.apart(eave, other); }
    public int late(int work) { return x.late(work); }
    public int lates() { return x.lates(); }
    public int off() { return x.off(); }
    public int worst() { return x.worst(); }
    public int size(int icicle, int day) { return x.size(icicle, day); }
    public int sizes(int icicle, int day) { return x.sizes(icicle, day); }
    public int place(int icicle, int day) { return x.place(icicle, day); }
    public int best(int icicle) { return x.best(icicle); }
    public int offs(int icicle) { return x.offs(icicle); }
    public int doors(int icicle, int day) { return x.doors(icicle, day); }
    public int tells(int hour) { return x.tells(hour); }
    public int next(int eave, int day) { return x.next(eave, day); }
    public int barest() { return x.barest(); }
    public int round(int from, int set) { return x.round(from, set); }
    public int rounds(int from, int set, int i) { return x.rounds(from, set, i); }
    public int slams(int slot) { return x.slams(slot); }
    public int slam(int slot) { return x.slam(slot); }
    public int calm(int slot) { return x.calm(slot); }
    public int ask(int slot) { return x.ask(slot); }
    public int weathers(int slot, int n) { return x.weathers(slot, n); }
    public int weather(int slot, int n, int day) { return x.weather(slot, n, day); }
    public int warmth(int slot, int n, int what) { return x.warmth(slot, n, what); }
    public long chance(int icicle, int day, int what) { return x.chance(icicle, day, what); }
    public int likely(int icicle) { return x.likely(icicle); }
    public int surest(int icicle, int day) { return x.surest(icicle, day); }
    public int walk() { return x.walk(); }
    public int walks(int day) { return x.walks(day); }
    public int ways() { return x.ways(); }
    public int rests() { return x.rests(); }
    public int rest() { return x.rest(); }
    public int door(int eave, int day) { return x.door(eave, day); }
    public int ring(int day) { return x.ring(day); }
    public int undo() { return x.undo(); }
    public int anew() { return x.anew(); }
    public int drawn(int seed, int what) { return x.drawn(seed, what); }
    public int luck(int seed, int n, int icicle, int day) { return x.luck(seed, n, icicle, day); }
    public int hung(int icicle, int n) { return x.hung(icicle, n); }
    public int count(int what) { return x.count(what); }
    public int image(int k) { return x.image(k); }
    public int back(int k) { return x.back(k); }
    public int row(int slot, int width, int n) { return x.row(slot, width, n); }
    public int write(int slot, int i, long v) { return x.write(slot, i, v); }
    public int paste(int slot, int i, int to, int k, int n) { return x.paste(slot, i, to, k, n); }
}

/** An icicle of the model. */
final class Ice {
    final int eave;
    final int told;
    final int hour;
    int hung;

    Ice(int eave, int told, int hour, int hung) {
        this.eave = eave;
        this.told = told;
        this.hour = hour;
        this.hung = hung;
    }

    Ice copy() {
        return new Ice(eave, told, hour, hung);
    }
}

/** The document's words, taken one by one and slowly. */
final class Model implements Face {
    static Model latest;

    byte[] tape = {};
    boolean told = false;
    int slam;
    int bell;
    int odds;
    int lines;
    List<Integer> thaws = new ArrayList<>();
    List<Boolean> warmable = new ArrayList<>();
    List<Integer> suns = new ArrayList<>();
    List<Ice> ices = new ArrayList<>();
    List<int[]> dues = new ArrayList<>();
    List<int[]> acts = new ArrayList<>();
    private int fault = 0;
    private int place = -1;
    private final Model[] images = new Model[3];
    private final long[][] rows = new long[4][];
    private final int[] widths = new int[4];

    Model() {
        latest = this;
    }

    String text() {
        StringBuilder b = new StringBuilder("street slam " + slam + " bell " + bell + " odds " + odds + ";");
        for (int d = 0; d < thaws.size(); d++) {
            b.append(warmable.get(d) ? "day thaw " : "day frost ").append(Math.abs(thaws.get(d))).append(';');
        }
        suns.forEach(s -> b.append("eave sun ").append(s).append(';'));
        ices.forEach(c -> b.append("icicle at " + c.eave + " length " + c.hung + " hour " + c.hour + ";"));
        dues.forEach(w -> b.append("due hour " + w[0] + " on " + w[1] + ";"));
        acts.forEach(a -> b.append(Arrays.toString(a)));
        return b.toString();
    }

    // the text

    private static final String[] SHAPES = {"street slam # bell # odds # ;", "day thaw # ;", "day frost # ;",
        "eave sun # ;", "icicle at # length # hour # ;", "due hour # on # ;"};

    public int end(int n) {
        if (n < 0 || n > tape.length) {
            return -1;
        }
        tape = Arrays.copyOf(tape, n);
        return n;
    }

    private List<String> tokens = new ArrayList<>();
    private List<Integer> places = new ArrayList<>();

    private void split() {
        tokens = new ArrayList<>();
        places = new ArrayList<>();
        String text = new String(tape, java.nio.charset.StandardCharsets.ISO_8859_1);
        java.util.regex.Matcher token = java.util.regex.Pattern.compile("[a-z]+|[0-9]+|;|[^ \n]").matcher(text);
        while (token.find()) {
            tokens.add(token.group());
            places.add(token.start());
        }
        tokens.add("END");
        places.add(tape.length);
    }

    public int street() {
        Model next = new Model();
        latest = this;
        split();
        int at = 0;
        fault = 0;
        place = -1;
        while (fault == 0 && !tokens.get(at).equals("END")) {
            at = readLine(next, at);
        }
        if (fault != 0) {
            return -4;
        }
        next.told = next.lines > 0;
        take(next);
        tape = new byte[0];
        return lines;
    }

    private int readLine(Model next, int from) {
        List<Long> numbers = new ArrayList<>();
        List<String> open = new ArrayList<>();
        for (String shape : SHAPES) {
            if (shape.startsWith("street") == (next.lines == 0)) {
                open.add(shape);
            }
        }
        for (int k = 0; ; k++) {
            String token = tokens.get(from + k);
            List<String> still = new ArrayList<>();
            for (String shape : open) {
                String want = shape.split(" ")[k];
                if (want.equals("#") ? token.matches("[0-9]+") : token.equals(want)) {
                    still.add(shape);
                }
            }
            open = still;
            int wrong = 0;
            if (open.isEmpty()) {
                wrong = 1;
            } else if (token.matches("[0-9]+")) {
                numbers.add(Long.parseLong(token.length() > 15 && !token.startsWith("0") ? token.substring(0, 15) : trim(token)));
                wrong = inBounds(next, open.get(0), numbers) ? 0 : 2;
            } else if (k == 0) {
                wrong = tooMany(next, open.get(0)) ? 3 : 0;
            }
            if (wrong != 0) {
                fault = wrong;
                place = places.get(from + k);
                return from + k;
            }
            if (token.equals(";")) {
                put(next, open.get(0), numbers);
                return from + k + 1;
            }
        }
    }

    private static String trim(String digits) {
        String bare = digits.replaceFirst("^0+(?=.)", "");
        return bare.length() > 15 ? bare.substring(0, 15) : bare;
    }

    private static boolean inBounds(Model next, String shape, List<Long> numbers) {
        long n = numbers.get(numbers.size() - 1);
        int k = numbers.size() - 1;
        if (shape.startsWith("street")) {
            return n <= (k == 2 ? 10 : 20);
        }
        if (shape.startsWith("day")) {
            return n <= 9;
        }
        if (shape.startsWith("eave")) {
            return n <= 4;
        }
        if (shape.startsWith("icicle")) {
            return k == 0 ? n < next.suns.size() : k == 1 ? n >= 1 && n <= 99 : n <= 23;
        }
        return k == 0 ? n <= 23 : n < next.thaws.size();
    }

    private static boolean tooMany(Model next, String shape) {
        return shape.startsWith("day") && next.thaws.size() == 14 || shape.startsWith("eave") && next.suns.size() == 5
            || shape.startsWith("icicle") && next.ices.size() == 8 || shape.startsWith("due") && next.dues.size() == 6;
    }

    private static void put(Model next, String shape, List<Long> n) {
        int[] v = n.stream().mapToInt(Long::intValue).toArray();
        next.lines++;
        if (shape.startsWith("street")) {
            next.slam = v[0];
            next.bell = v[1];
            next.odds = v[2];
        } else if (shape.startsWith("day")) {
            next.warmable.add(shape.contains("thaw"));
            next.thaws.add(shape.contains("thaw") ? v[0] : -v[0]);
        } else if (shape.startsWith("eave")) {
            next.suns.add(v[0]);
        } else if (shape.startsWith("icicle")) {
            next.ices.add(new Ice(v[0], v[1], v[2], v[1]));
        } else {
            next.dues.add(v);
        }
    }

    /** The street, and acts, of another. */
    private void take(Model m) {
        told = m.told;
        slam = m.slam;
        bell = m.bell;
        odds = m.odds;
        lines = m.lines;
        thaws = new ArrayList<>(m.thaws);
        warmable = new ArrayList<>(m.warmable);
        suns = new ArrayList<>(m.suns);
        ices = new ArrayList<>();
        m.ices.forEach(c -> ices.add(c.copy()));
        dues = new ArrayList<>(m.dues);
        acts = new ArrayList<>(m.acts);
    }

    public int fault(int what) {
        return what == 0 ? fault : what == 1 ? place : -1;
    }

    // what there is

    private static boolean in(int k, List<?> list) {
        return k >= 0 && k < list.size();
    }

    private boolean noIce(int k) {
        return !in(k, ices);
    }

    private boolean noDay(int k) {
        return !in(k, thaws);
    }

    private boolean noEave(int k) {
        return !in(k, suns);
    }

    public int day(int day) {
        return noDay(day) ? -1000 : thaws.get(day);
    }

    public int melt(int eave, int day) {
        if (noEave(eave) || noDay(day)) {
            return -1000;
        }
        return warmable.get(day) ? thaws.get(day) * suns.get(eave) : thaws.get(day);
    }

    public int icicle(int icicle, int what) {
        if (noIce(icicle) || what < 0 || what > 2) {
            return -2;
        }
        Ice c = ices.get(icicle);
        return what == 0 ? c.eave : what == 1 ? c.told : c.hour;
    }

    public int work(int work, int what) {
        return !in(work, dues) || what < 0 || what > 1 ? -2 : dues.get(work)[what];
    }

    public int eave(int eave) {
        if (noEave(eave)) {
            return -2;
        }
        int bits = 0;
        for (int i = 0; i < ices.size(); i++) {
            bits += ices.get(i).eave == eave ? 1 << i : 0;
        }
        return bits;
    }

    // one icicle's winter: lengths behind each day; what is otherwise is told by the arguments

    private int[] lengths(int eave, int length, int warm, int[] more) {
        int[] behind = new int[thaws.size()];
        int left = length;
        boolean fallen = false;
        for (int d = 0; d < thaws.size(); d++) {
            int thaw = thaws.get(d) + (warmable.get(d) && (warm >> d & 1) == 1 ? 1 : 0);
            left -= warmable.get(d) ? thaw * suns.get(eave) : thaw;
            for (int[] act : acts) {
                left -= act[1] != d ? 0 : act[0] == -1 ? bell : act[0] == eave ? slam : 0;
            }
            if (more != null && more[0] == eave && more[1] == d) {
                left -= slam * more[2];
            }
            fallen |= left <= 0;
            behind[d] = fallen ? 0 : left;
        }
        return behind;
    }

    private int fallOf(int eave, int length, int warm, int[] more) {
        int[] behind = lengths(eave, length, warm, more);
        for (int d = 0; d < behind.length; d++) {
            if (behind[d] == 0) {
                return d;
            }
        }
        return -1;
    }

    private int fall(int i) {
        return fallOf(ices.get(i).eave, ices.get(i).hung, 0, null);
    }

    int fallBy(int i, int doorEave, int doorDay) {
        return fallOf(ices.get(i).eave, ices.get(i).hung, 0, new int[] {doorEave, doorDay, 1});
    }

    public int falls(int icicle) {
        return noIce(icicle) ? -2 : fall(icicle);
    }

    public int length(int icicle, int day) {
        if (noIce(icicle) || noDay(day)) {
            return -2;
        }
        return lengths(ices.get(icicle).eave, ices.get(icicle).hung, 0, null)[day];
    }

    public int longest(int icicle) {
        if (noIce(icicle)) {
            return -2;
        }
        int most = ices.get(icicle).hung;
        for (int d = 0; d < thaws.size(); d++) {
            most = Math.max(most, length(icicle, d));
        }
        return most;
    }

    public int drops(int day) {
        if (noDay(day)) {
            return -2;
        }
        int bits = 0;
        for (int i = 0; i < ices.size(); i++) {
            bits += fall(i) == day ? 1 << i : 0;
        }
        return bits;
    }

    public int hang(int day) {
        if (noDay(day)) {
            return -2;
        }
        int bits = 0;
        for (int i = 0; i < ices.size(); i++) {
            bits += length(i, day) > 0 ? 1 << i : 0;
        }
        return bits;
    }

    public int under(int eave) {
        if (noEave(eave)) {
            return -2;
        }
        int bits = 0;
        for (int d = 0; d < thaws.size(); d++) {
            bits += (drops(d) & eave(eave)) != 0 ? 1 << d : 0;
        }
        return bits;
    }

    public int rush() {
        if (!told) {
            return -2;
        }
        int found = -1;
        for (int d = thaws.size() - 1; d >= 0; d--) {
            int many = Integer.bitCount(drops(d));
            if (many > 0 && (found == -1 || many >= Integer.bitCount(drops(found)))) {
                found = d;
            }
        }
        return found;
    }

    private int timeOf(int icicles, int day) {
        for (int d = day; d >= 0; d--) {
            int fell = drops(d) & icicles;
            if (fell != 0) {
                return ices.get(31 - Integer.numberOfLeadingZeros(fell)).hour;
            }
        }
        return -1;
    }

    public int time(int eave, int day) {
        return noEave(eave) || noDay(day) ? -2 : timeOf(eave(eave), day);
    }

    public int hour(int day) {
        return noDay(day) ? -2 : timeOf(255, day);
    }

    public int meet(int eave, int other) {
        if (noEave(eave) || noEave(other)) {
            return -2;
        }
        int bits = 0;
        for (int d = 0; d < thaws.size(); d++) {
            bits += time(eave, d) >= 0 && time(eave, d) == time(other, d) ? 1 << d : 0;
        }
        return bits;
    }

    public int apart(int eave, int other) {
        if (noEave(eave) || noEave(other)) {
            return -2;
        }
        int most = -1;
        for (int d = 0; d < thaws.size(); d++) {
            int a = time(eave, d);
            int b = time(other, d);
            if (a >= 0 && b >= 0) {
                most = Math.max(most, Math.min(Math.floorMod(a - b, 24), Math.floorMod(b - a, 24)));
            }
        }
        return most;
    }

    public int late(int work) {
        if (!in(work, dues)) {
            return -1000;
        }
        for (int i = 0; i < ices.size(); i++) {
            if (ices.get(i).hour == dues.get(work)[0]) {
                return fall(i) < 0 ? 99 : fall(i) - dues.get(work)[1];
            }
        }
        return 99;
    }

    public int lates() {
        if (!told) {
            return -2;
        }
        int bits = 0;
        for (int w = 0; w < dues.size(); w++) {
            bits += late(w) > 0 ? 1 << w : 0;
        }
        return bits;
    }

    public int off() {
        if (!told) {
            return -2;
        }
        int sum = 0;
        for (int w = 0; w < dues.size(); w++) {
            sum += Math.abs(late(w));
        }
        return sum;
    }

    public int worst() {
        if (!told) {
            return -2;
        }
        for (int far = 99; far > 0; far--) {
            for (int w = 0; w < dues.size(); w++) {
                if (Math.abs(late(w)) == far) {
                    return w;
                }
            }
        }
        return -1;
    }

    public int size(int icicle, int day) {
        if (noIce(icicle) || noDay(day)) {
            return -2;
        }
        for (int n = 1; n <= 99; n++) {
            if (fallOf(ices.get(icicle).eave, n, 0, null) == day) {
                return n;
            }
        }
        return -1;
    }

    public int sizes(int icicle, int day) {
        if (noIce(icicle) || noDay(day)) {
            return -2;
        }
        int many = 0;
        for (int n = 1; n <= 99; n++) {
            many += fallOf(ices.get(icicle).eave, n, 0, null) == day ? 1 : 0;
        }
        return many;
    }

    public int place(int icicle, int day) {
        if (noIce(icicle) || noDay(day)) {
            return -2;
        }
        for (int far = 0; far < 14; far++) {
            for (int e = 0; e < suns.size(); e++) {
                int f = fallOf(e, ices.get(icicle).hung, 0, null);
                if (f >= 0 && Math.abs(f - day) == far) {
                    return e;
                }
            }
        }
        return -1;
    }

    private int offAt(int icicle, int n) {
        int was = ices.get(icicle).hung;
        ices.get(icicle).hung = n;
        int sum = off();
        ices.get(icicle).hung = was;
        return sum;
    }

    public int best(int icicle) {
        if (noIce(icicle)) {
            return -2;
        }
        int found = 99;
        for (int n = 99; n >= 1; n--) {
            found = offAt(icicle, n) <= offAt(icicle, found) ? n : found;
        }
        return found;
    }

    public int offs(int icicle) {
        return noIce(icicle) ? -2 : offAt(icicle, best(icicle));
    }

    public int doors(int icicle, int day) {
        if (noIce(icicle) || noDay(day)) {
            return -2;
        }
        for (int k = 0; k <= 20; k++) {
            Ice c = ices.get(icicle);
            if (lengths(c.eave, c.hung, 0, new int[] {c.eave, day, k})[day] == 0) {
                return k;
            }
        }
        return -1;
    }

    public int tells(int hour) {
        if (!told || hour < 0 || hour > 23) {
            return -2;
        }
        int bits = 0;
        for (int d = 0; d < thaws.size(); d++) {
            bits += hour(d) == hour ? 1 << d : 0;
        }
        return bits;
    }

    public int next(int eave, int day) {
        if (noEave(eave) || noDay(day)) {
            return -2;
        }
        for (int d = day + 1; d < thaws.size(); d++) {
            if ((under(eave) >> d & 1) == 1) {
                return d;
            }
        }
        return -1;
    }

    public int barest() {
        if (!told) {
            return -2;
        }
        int[] many = new int[5];
        for (int i = 0; i < ices.size(); i++) {
            many[ices.get(i).eave] += fall(i) >= 0 ? 1 : 0;
        }
        int most = Arrays.stream(many).max().getAsInt();
        for (int e = 0; e < 5 && most > 0; e++) {
            if (many[e] == most) {
                return e;
            }
        }
        return -1;
    }

    // orders: all of them, least row first

    private List<Integer> bestOrder;
    private int bestSteps;

    private void orders(int at, List<Integer> left, List<Integer> order, int steps) {
        if (left.isEmpty()) {
            if (bestOrder == null || steps < bestSteps) {
                bestOrder = new ArrayList<>(order);
                bestSteps = steps;
            }
            return;
        }
        for (int e : left) {
            List<Integer> rest = new ArrayList<>(left);
            rest.remove((Integer) e);
            order.add(e);
            orders(e, rest, order, steps + Math.abs(e - at));
            order.remove(order.size() - 1);
        }
    }

    private boolean noRound(int from, int set) {
        if (noEave(from) || set < 0 || set >> suns.size() != 0) {
            return true;
        }
        List<Integer> all = new ArrayList<>();
        for (int e = 0; e < suns.size(); e++) {
            if ((set >> e & 1) == 1) {
                all.add(e);
            }
        }
        bestOrder = null;
        orders(from, all, new ArrayList<>(), 0);
        return false;
    }

    public int round(int from, int set) {
        return noRound(from, set) ? -2 : bestSteps;
    }

    public int rounds(int from, int set, int i) {
        return noRound(from, set) ? -2 : in(i, bestOrder) ? bestOrder.get(i) : -1;
    }

    // what was seen

    private int badRow(int slot, boolean others, int days) {
        if (slot < 0 || slot > 3 || !told || !others) {
            return -2;
        }
        if (rows[slot] == null) {
            return -6;
        }
        if (rows[slot].length % 2 == 1) {
            return -2;
        }
        for (int i = 0; i < rows[slot].length; i += 2) {
            long c = rows[slot][i];
            long d = rows[slot][i + 1];
            if (c < 0 || c >= ices.size() || d < -1 || d >= days) {
                return -2;
            }
        }
        return 0;
    }

    private List<int[]> fitting(int slot) {
        List<int[]> found = new ArrayList<>();
        for (int e = 0; e < suns.size(); e++) {
            for (int d = 0; d < thaws.size(); d++) {
                boolean fits = true;
                for (int i = 0; i < rows[slot].length; i += 2) {
                    fits &= fallBy((int) rows[slot][i], e, d) == rows[slot][i + 1];
                }
                if (fits) {
                    found.add(new int[] {e, d});
                }
            }
        }
        return found;
    }

    public int slams(int slot) {
        int bad = badRow(slot, true, thaws.size());
        return bad != 0 ? bad : fitting(slot).size();
    }

    public int slam(int slot) {
        int bad = badRow(slot, true, thaws.size());
        if (bad != 0) {
            return bad;
        }
        List<int[]> all = fitting(slot);
        return all.isEmpty() ? -1 : all.get(0)[0] * 100 + all.get(0)[1];
    }

    public int calm(int slot) {
        int bad = badRow(slot, true, thaws.size());
        if (bad != 0) {
            return bad;
        }
        for (int i = 0; i < rows[slot].length; i += 2) {
            if (fall((int) rows[slot][i]) != rows[slot][i + 1]) {
                return 0;
            }
        }
        return 1;
    }

    public int ask(int slot) {
        int bad = badRow(slot, true, thaws.size());
        if (bad != 0) {
            return bad;
        }
        List<int[]> all = fitting(slot);
        int found = -1;
        int fewest = all.size();
        for (int i = 0; i < ices.size(); i++) {
            int worst = 0;
            for (int f = -1; f < thaws.size(); f++) {
                int left = 0;
                for (int[] pair : all) {
                    left += fallBy(i, pair[0], pair[1]) == f ? 1 : 0;
                }
                worst = Math.max(worst, left);
            }
            if (worst < fewest) {
                fewest = worst;
                found = i;
            }
        }
        return found;
    }

    private List<int[]> weatherRows(int slot, int n) {
        List<int[]> found = new ArrayList<>();
        for (int k = 0; k < 1 << 2 * n; k++) {
            int[] row = new int[n];
            for (int d = 0; d < n; d++) {
                row[d] = k >> 2 * (n - 1 - d) & 3;
            }
            boolean fits = true;
            for (int i = 0; i < rows[slot].length && fits; i += 2) {
                Ice c = ices.get((int) rows[slot][i]);
                int left = c.hung;
                int fell = -1;
                for (int d = 0; d < n && fell == -1; d++) {
                    left -= row[d] * suns.get(c.eave);
                    fell = left <= 0 ? d : -1;
                }
                fits = fell == rows[slot][i + 1];
            }
            if (fits) {
                found.add(row);
            }
        }
        return found;
    }

    private int badWeather(int slot, int n, boolean others) {
        return badRow(slot, n >= 1 && n <= 5 && others, Math.min(n, thaws.size()));
    }

    public int weathers(int slot, int n) {
        int bad = badWeather(slot, n, true);
        return bad != 0 ? bad : weatherRows(slot, n).size();
    }

    public int weather(int slot, int n, int day) {
        int bad = badWeather(slot, n, day >= 0 && day < n);
        if (bad != 0) {
            return bad;
        }
        List<int[]> all = weatherRows(slot, n);
        return all.isEmpty() ? -1 : all.get(0)[day];
    }

    public int warmth(int slot, int n, int what) {
        int bad = badWeather(slot, n, what == 0 || what == 1);
        if (bad != 0) {
            return bad;
        }
        java.util.stream.IntStream sums = weatherRows(slot, n).stream().mapToInt(r -> Arrays.stream(r).sum());
        return (what == 0 ? sums.min() : sums.max()).orElse(-1);
    }

    // chances: all winters

    /** Weight, out of ten to the number of days of thaw, that it falls on a day (-1: never). */
    private BigInteger[] chances(int eave, int length) {
        List<Integer> can = new ArrayList<>();
        for (int d = 0; d < thaws.size(); d++) {
            if (warmable.get(d)) {
                can.add(d);
            }
        }
        BigInteger[] weights = new BigInteger[thaws.size() + 1];
        Arrays.fill(weights, BigInteger.ZERO);
        for (int k = 0; k < 1 << can.size(); k++) {
            int warm = 0;
            long weight = 1;
            for (int j = 0; j < can.size(); j++) {
                boolean is = (k >> j & 1) == 1;
                warm |= is ? 1 << can.get(j) : 0;
                weight *= is ? odds : 10 - odds;
            }
            if (weight > 0) {
                int f = fallOf(eave, length, warm, null);
                weights[f + 1] = weights[f + 1].add(BigInteger.valueOf(weight));
            }
        }
        return weights;
    }

    public long chance(int icicle, int day, int what) {
        if (noIce(icicle) || noDay(day) || what < 0 || what > 1) {
            return -2;
        }
        BigInteger all = BigInteger.ZERO;
        BigInteger[] weights = chances(ices.get(icicle).eave, ices.get(icicle).hung);
        for (BigInteger w : weights) {
            all = all.add(w);
        }
        BigInteger common = weights[day + 1].gcd(all);
        return (what == 0 ? weights[day + 1] : all).divide(common).longValueExact();
    }

    public int likely(int icicle) {
        if (noIce(icicle)) {
            return -2;
        }
        BigInteger[] weights = chances(ices.get(icicle).eave, ices.get(icicle).hung);
        int found = 0;
        for (int k = 1; k < weights.length; k++) {
            found = weights[k].compareTo(weights[found]) > 0 ? k : found;
        }
        return found - 1;
    }

    public int surest(int icicle, int day) {
        if (noIce(icicle) || noDay(day)) {
            return -2;
        }
        int found = -1;
        BigInteger most = BigInteger.ZERO;
        for (int n = 1; n <= 99; n++) {
            BigInteger w = chances(ices.get(icicle).eave, n)[day + 1];
            if (w.compareTo(most) > 0) {
                most = w;
                found = n;
            }
        }
        return found;
    }

    // walks: all of them, least row first

    private int[] firstWalk;
    private int fewest;
    private int walksSo;

    private void tryWalks(int[] walk, int day, int struck) {
        if (day == thaws.size()) {
            if (firstWalk == null || struck < fewest) {
                firstWalk = walk.clone();
                fewest = struck;
                walksSo = 0;
            }
            walksSo += struck == fewest ? 1 : 0;
            return;
        }
        for (int e = 0; e < suns.size(); e++) {
            if (day == 0 || Math.abs(walk[day - 1] - e) <= 1) {
                walk[day] = e;
                tryWalks(walk, day + 1, struck + struckAt[day][e]);
            }
        }
    }

    private int[][] struckAt;

    private boolean noWalk() {
        if (suns.isEmpty() || thaws.isEmpty()) {
            return true;
        }
        struckAt = new int[thaws.size()][suns.size()];
        for (Ice c : ices) {
            int f = fallOf(c.eave, c.hung, 0, null);
            if (f >= 0) {
                struckAt[f][c.eave]++;
            }
        }
        firstWalk = null;
        tryWalks(new int[thaws.size()], 0, 0);
        return false;
    }

    public int walk() {
        return noWalk() ? -2 : fewest;
    }

    public int walks(int day) {
        return noDay(day) || noWalk() ? -2 : firstWalk[day];
    }

    public int ways() {
        return noWalk() ? -2 : walksSo;
    }

    private int has(boolean second, int a, int b) {
        int same = Integer.bitCount(meet(a, b));
        return second ? thaws.size() - same + suns.get(b) : same + suns.get(a);
    }

    private List<Integer> restPairs() {
        List<Integer> found = new ArrayList<>();
        for (int a = 0; a < suns.size(); a++) {
            for (int b = 0; b < suns.size(); b++) {
                boolean rest = true;
                for (int e = 0; e < suns.size(); e++) {
                    rest &= has(false, e, b) <= has(false, a, b) && has(true, a, e) <= has(true, a, b);
                }
                if (rest) {
                    found.add(10 * a + b);
                }
            }
        }
        return found;
    }

    public int rests() {
        return told ? restPairs().size() : -2;
    }

    public int rest() {
        return !told ? -2 : restPairs().isEmpty() ? -1 : restPairs().get(0);
    }

    // acts

    public int door(int eave, int day) {
        if (noEave(eave) || noDay(day)) {
            return -2;
        }
        if (acts.size() == 40) {
            return -5;
        }
        acts.add(new int[] {eave, day});
        return Integer.bitCount(drops(day) & eave(eave));
    }

    public int ring(int day) {
        if (noDay(day)) {
            return -2;
        }
        if (acts.size() == 40) {
            return -5;
        }
        acts.add(new int[] {-1, day});
        return Integer.bitCount(drops(day));
    }

    public int undo() {
        if (!told) {
            return -2;
        }
        if (acts.isEmpty()) {
            return -5;
        }
        acts.remove(acts.size() - 1);
        return acts.size();
    }

    public int anew() {
        if (!told) {
            return -2;
        }
        int were = acts.size();
        acts.clear();
        return were;
    }

    private int warmDays(BigInteger seed) {
        BigInteger x = seed;
        int bits = 0;
        for (int d = 0; d < thaws.size(); d++) {
            if (warmable.get(d)) {
                x = x.multiply(BigInteger.valueOf(1103515245)).add(BigInteger.valueOf(12345)).mod(BigInteger.ONE.shiftLeft(31));
                int draw = x.divide(BigInteger.valueOf(65536)).mod(BigInteger.TEN).intValue();
                bits += draw < odds ? 1 << d : 0;
            }
        }
        return bits;
    }

    public int drawn(int seed, int what) {
        if (!told || seed < 0 || seed > 2000000000 || what < 0 || what > 2) {
            return -2;
        }
        int warm = warmDays(BigInteger.valueOf(seed));
        int fallen = 0;
        int last = -1;
        int time = -1;
        for (int i = 0; i < ices.size(); i++) {
            int f = fallOf(ices.get(i).eave, ices.get(i).hung, warm, null);
            fallen += f >= 0 ? 1 << i : 0;
            if (f >= 0 && f >= last) {
                last = f;
                time = ices.get(i).hour;
            }
        }
        return what == 0 ? warm : what == 1 ? fallen : time;
    }

    public int luck(int seed, int n, int icicle, int day) {
        if (seed < 0 || seed > 2000000000 || n < 1 || n > 20 || noIce(icicle) || noDay(day)) {
            return -2;
        }
        int many = 0;
        for (int k = 0; k < n; k++) {
            int warm = warmDays(BigInteger.valueOf(seed).add(BigInteger.valueOf(k)));
            int f = fallOf(ices.get(icicle).eave, ices.get(icicle).hung, warm, null);
            many += f >= 0 && f <= day ? 1 : 0;
        }
        return many;
    }

    public int hung(int icicle, int n) {
        if (noIce(icicle) || n < 1 || n > 99) {
            return -2;
        }
        if (!acts.isEmpty()) {
            return -5;
        }
        int was = ices.get(icicle).hung;
        ices.get(icicle).hung = n;
        return was;
    }

    public int count(int what) {
        int filled = 0;
        for (long[] row : rows) {
            filled += row == null ? 0 : 1;
        }
        int[] all = {slam, bell, odds, thaws.size(), suns.size(), ices.size(), dues.size(), acts.size(), lines,
            tape.length, filled};
        return what < 0 || what >= all.length ? -1 : all[what];
    }

    public int image(int k) {
        if (k < 0 || k > 2) {
            return -2;
        }
        images[k] = new Model();
        latest = this;
        images[k].take(this);
        return 0;
    }

    public int back(int k) {
        if (k < 0 || k > 2) {
            return -2;
        }
        if (images[k] == null) {
            return -6;
        }
        take(images[k]);
        return 0;
    }

    public int row(int slot, int width, int n) {
        if (slot < 0 || slot > 3 || width < 0 || width > 3 || n > 60) {
            return -2;
        }
        if (n < 0) {
            return -3;
        }
        rows[slot] = new long[n];
        widths[slot] = width;
        return 0;
    }

    public int write(int slot, int i, long v) {
        if (slot < 0 || slot > 3) {
            return -2;
        }
        if (rows[slot] == null) {
            return -6;
        }
        if (i < 0 || i >= rows[slot].length) {
            return -7;
        }
        int away = 64 - (8 << widths[slot]);
        rows[slot][i] = v << away >> away;
        return 0;
    }

    public int paste(int slot, int i, int to, int k, int n) {
        if (slot < 0 || slot > 3 || to < 0 || to > 3) {
            return -2;
        }
        if (rows[slot] == null || rows[to] == null) {
            return -6;
        }
        if (widths[slot] != widths[to]) {
            return -8;
        }
        if (i < 0 || k < 0 || n < 0 || (long) i + n > rows[slot].length || (long) k + n > rows[to].length) {
            return -7;
        }
        System.arraycopy(rows[slot].clone(), i, rows[to], k, n);
        return 0;
    }
}
