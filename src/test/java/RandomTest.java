import java.util.Random;

/** Long random runs, each answer compared with that of Naive, and all that can be asked compared now and then. */
public final class RandomTest {
    private static final String[] CALLS = {
        "street", "surface", "embargo", "thing", "record", "lose", "survey", "trial", "ask", "grant", "refuse", "vary",
        "exempt", "agree", "start", "open", "fill", "plate", "extend", "stop", "pass", "defect", "core", "liable",
        "liableAnew", "bars", "meets", "of", "metre", "search", "queue", "due", "money", "moneyAnew",
    };
    /** How often each call is made, in their order. */
    private static final int[] WEIGHTS = {
        3, 3, 2, 8, 6, 3, 4, 8, 12, 8, 1, 4, 3, 6, 25, 40, 30, 4, 12, 6, 22, 8, 8, 6,
        6, 6, 6, 4, 4, 6, 3, 5, 3, 3,
    };

    private final Random random;
    private final boolean wild;
    private final Trenchboard board = new Trenchboard();
    private final Naive naive = new Naive();

    private RandomTest(long seed) {
        random = new Random(seed);
        wild = seed % 4 == 0;
    }

    public static void main(String[] args) {
        Check c = new Check();
        int runs = args.length > 0 ? Integer.parseInt(args[0]) : 400;
        long[] made = new long[CALLS.length];
        long[] threw = new long[CALLS.length];
        for (int seed = 1; seed <= runs; seed++) {
            c.promise("run " + seed);
            if (!new RandomTest(seed).run(c, made, threw)) {
                break;
            }
        }
        for (int i = 0; i < CALLS.length; i++) {
            if (runs >= 400 && (threw[i] == 0 || made[i] <= threw[i])) {
                c.say(CALLS[i] + " was made " + made[i] + " times, and threw " + threw[i] + " times");
            }
            if (args.length > 1) {
                System.out.println(CALLS[i] + ": made " + made[i] + ", threw " + threw[i]);
            }
        }
        c.end("RandomTest");
    }

    private boolean run(Check c, long[] made, long[] threw) {
        for (int i = 0; i < 512; i++) {
            int call = i < 4 ? 0 : pick();
            int[] a = arguments(CALLS[call]);
            long want = asked(CALLS[call], a);
            long got = answered(CALLS[call], a);
            made[call]++;
            threw[call] += want <= Naive.OUT ? 1 : 0;
            if (got != want) {
                c.due("call " + i + ", " + told(CALLS[call], a), got, want);
                return false;
            }
            if ((i % 50 == 49 || i == 511) && !sweep(c, i)) {
                return false;
            }
        }
        return true;
    }

    private int pick() {
        int all = 0;
        for (int w : WEIGHTS) {
            all += w;
        }
        int r = random.nextInt(all);
        int i = 0;
        while (r >= WEIGHTS[i]) {
            r -= WEIGHTS[i];
            i++;
        }
        return i;
    }

    private static String told(String call, int[] a) {
        StringBuilder b = new StringBuilder(call).append('(');
        for (int i = 0; i < a.length; i++) {
            b.append(i == 0 ? "" : ", ").append(a[i]);
        }
        return b.append(')').toString();
    }

    /** Mostly from low to high, now and then just outside, or far away. */
    private int in(int low, int high) {
        int r = random.nextInt(wild ? 60 : 400);
        if (r == 0) {
            return low - 1;
        }
        if (r == 1) {
            return high + 1;
        }
        if (r == 2) {
            return random.nextBoolean() ? Integer.MAX_VALUE : Integer.MIN_VALUE;
        }
        if (r < 10) {
            return r % 2 == 0 ? low : high;
        }
        return low + random.nextInt(high - low + 1);
    }

    /** Mostly works of which there are some that are what they should be for the call; any ones if there are none. */
    private int works(int... states) {
        for (int tries = 0; tries < 20 && naive.jobCount() > 0 && random.nextInt(60) > 0; tries++) {
            int w = random.nextInt(naive.jobCount());
            for (int state : states) {
                if (naive.of(w, 0) == state) {
                    return w;
                }
            }
            if (states.length == 0) {
                return w;
            }
        }
        return in(0, 23);
    }

    private int street() {
        return random.nextInt(4) == 0 ? in(0, 5) : random.nextInt(3);
    }

    private int thing() {
        return naive.pipeCount() > 0 && random.nextInt(60) > 0 ? random.nextInt(naive.pipeCount()) : in(0, 29);
    }

    private int metre() {
        return in(0, wild ? 12 : 7);
    }

    private int metreOf(int works) {
        int[] span = naive.metresOf(works);
        return span == null || random.nextInt(40) == 0 ? metre() : in(span[0], span[1]);
    }

    private int last(int from) {
        return random.nextInt(30) == 0 ? metre() : (int) Math.min((long) from + random.nextInt(4), 7);
    }

    private int depth() {
        return in(10, random.nextBoolean() ? 60 : 300);
    }

    private int[] arguments(String call) {
        int today = naive.hour() / 24;
        int from = metre();
        switch (call) {
            case "street": return new int[] {random.nextInt(6) == 0 ? in(1, 40) : 8, in(0, 3), in(0, 999), in(-1, Math.max(naive.wayCount() - 1, 0))};
            case "surface": case "queue": return new int[] {street()};
            case "embargo": {
                int day = today + random.nextInt(40);
                return new int[] {street(), random.nextInt(8) == 0 ? in(0, 999) : day, random.nextInt(8) == 0 ? in(0, 999) : day + random.nextInt(3)};
            }
            case "thing": return new int[] {in(0, 4), street(), from, last(from), random.nextBoolean() ? in(10, 60) : in(10, 300)};
            case "record": return new int[] {thing(), from, last(from), in(0, 3)};
            case "lose": case "survey": return new int[] {thing()};
            case "trial": return new int[] {street(), from};
            case "ask": return asking(street(), from, today);
            case "grant": return new int[] {works(0), in(0, 3)};
            case "vary": return new int[] {works(1, 3), in(0, 3)};
            case "refuse": return new int[] {works(0, 0, 1)};
            case "start": return new int[] {works(1)};
            case "plate": case "extend": case "stop": return new int[] {works(3)};
            case "exempt": case "bars": return new int[] {works()};
            case "agree": return new int[] {works(0, 1, 3), works(0, 1, 3)};
            case "open": case "fill": return digging(call);
            case "pass": return new int[] {random.nextInt(5) == 0 ? in(1, 200) : random.nextBoolean() ? in(1, 12) : 24};
            case "core": case "defect": case "liable": case "liableAnew": return filled(call);
            case "meets": return new int[] {works(), in(0, 5)};
            case "of": return new int[] {works(), in(0, 7)};
            case "metre": return new int[] {street(), from, in(0, 3)};
            case "search": return new int[] {street(), from, last(from)};
            case "due": return new int[] {in(0, 4)};
            default: return new int[] {in(0, 5)};
        }
    }

    private int[] digging(String call) {
        int w = works(3);
        int m = metreOf(w);
        if (call.equals("open")) {
            return new int[] {w, m};
        }
        for (int tries = 0; tries < 20 && naive.of(w, 5) > 0 && naive.metre(naive.streetOf(w), m, 2) != w; tries++) {
            m = metreOf(w);
        }
        return new int[] {w, m, random.nextBoolean() ? in(78, 82) : in(0, 100)};
    }

    private int[] filled(String call) {
        int s = street();
        int m = metre();
        for (int tries = 0; tries < 10 && naive.metre(s, m, 3) < 1; tries++) {
            s = street();
            m = metre();
        }
        int depth = random.nextBoolean() ? in(0, 20) : in(0, 300);
        return call.equals("core") ? new int[] {s, m} : new int[] {s, m, depth};
    }

    private int[] asking(int street, int from, int today) {
        int kind = random.nextInt(3) == 0 ? 3 : in(0, 3);
        int notice = kind == 0 ? 20 : kind == 1 ? 8 : kind == 2 ? 3 : 0;
        int day = random.nextInt(40) == 0 ? in(0, 999) : today + notice * (1 + random.nextInt(2)) + random.nextInt(4) - (random.nextInt(8) == 0 ? 1 : 0);
        return new int[] {in(0, 4), street, from, last(from), depth(), kind, day, random.nextBoolean() ? in(1, 60) : in(1, 12)};
    }

    private long asked(String call, int[] a) {
        switch (call) {
            case "street": return naive.street(a[0], a[1], a[2], a[3]);
            case "surface": return naive.surface(a[0]);
            case "embargo": return naive.embargo(a[0], a[1], a[2]);
            case "thing": return naive.thing(a[0], a[1], a[2], a[3], a[4]);
            case "record": return naive.record(a[0], a[1], a[2], a[3]);
            case "lose": return naive.lose(a[0]);
            case "survey": return naive.survey(a[0]);
            case "trial": return naive.trial(a[0], a[1]);
            case "ask": return naive.ask(a[0], a[1], a[2], a[3], a[4], a[5], a[6], a[7]);
            case "grant": return naive.grant(a[0], a[1]);
            case "refuse": return naive.refuse(a[0]);
            case "vary": return naive.vary(a[0], a[1]);
            case "exempt": return naive.exempt(a[0]);
            case "agree": return naive.agree(a[0], a[1]);
            case "start": return naive.start(a[0]);
            case "open": return naive.open(a[0], a[1]);
            case "fill": return naive.fill(a[0], a[1], a[2]);
            case "plate": return naive.plate(a[0]);
            case "extend": return naive.extend(a[0]);
            case "stop": return naive.stop(a[0]);
            case "pass": return naive.pass(a[0]);
            case "defect": return naive.defect(a[0], a[1], a[2]);
            case "core": return naive.core(a[0], a[1]);
            case "liable": case "liableAnew": return naive.liable(a[0], a[1], a[2]);
            case "bars": return naive.bars(a[0]);
            case "meets": return naive.meets(a[0], a[1]);
            case "of": return naive.of(a[0], a[1]);
            case "metre": return naive.metre(a[0], a[1], a[2]);
            case "search": return naive.search(a[0], a[1], a[2]);
            case "queue": return naive.queue(a[0]);
            case "due": return naive.due(a[0]);
            default: return naive.money(a[0]);
        }
    }

    private long answered(String call, int[] a) {
        return Calls.answer(board, call, a);
    }

    /** Compares all that can be asked, which shows, too, that calls that throw changed nothing. */
    private boolean sweep(Check c, int i) {
        boolean same = true;
        for (int w = 0; w < 24; w++) {
            for (int what = 0; what <= 7; what++) {
                same &= same(c, i, "of", w, what);
            }
            same &= same(c, i, "bars", w) && same(c, i, "meets", w, 0);
        }
        for (int s = 0; s < 6; s++) {
            for (int m = 0; m < 8; m++) {
                for (int what = 0; what <= 3; what++) {
                    same &= same(c, i, "metre", s, m, what);
                }
                same &= same(c, i, "search", s, m, Math.min(m + 2, 7));
                for (int depth = 0; depth <= 300; depth += depth < 10 ? 9 : 97) {
                    same &= same(c, i, "liable", s, m, depth) && same(c, i, "liableAnew", s, m, depth);
                }
            }
            same &= same(c, i, "queue", s) && same(c, i, "due", s) && same(c, i, "money", s) && same(c, i, "moneyAnew", s);
        }
        return same;
    }

    private boolean same(Check c, int i, String call, int... a) {
        long want = asked(call, a);
        long got = answered(call, a);
        if (got != want) {
            c.due("behind call " + i + ", " + told(call, a), got, want);
        }
        return got == want;
    }
}
