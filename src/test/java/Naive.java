import java.util.ArrayList;
import java.util.List;
import java.util.Set;
import java.util.TreeSet;

/**
 * The document told a second time, slowly: days and metres are sets, and what can be found by going
 * through all that was told is found so. An exception is answered as a number.
 */
final class Naive {
    static final long OUT = -1000001, WRONG = -1000002, STATE = -1000003;

    private static final class Way {
        int metres, grade, flow, around;
        Set<Integer> embargo = new TreeSet<>();
        int queue;
    }

    private static final class Pipe {
        int owner, street, from, to, depth;
        int[] record;
    }

    private static final class Job {
        int promoter, street, from, to, depth, kind, first, days, asked, state, conditions, version, extended, finds;
        boolean plates, exempt;
    }

    /** What was told, in its order. */
    private static final class Event {
        final char what;
        final int street, from, to, works, day, density;
        boolean cored;

        Event(char what, int street, int from, int to, int works, int day, int density) {
            this.what = what;
            this.street = street;
            this.from = from;
            this.to = to;
            this.works = works;
            this.day = day;
            this.density = density;
        }

        boolean at(int s, int m) {
            return street == s && from <= m && m <= to;
        }
    }

    private final List<Way> ways = new ArrayList<>();
    private final List<Pipe> pipes = new ArrayList<>();
    private final List<Job> jobs = new ArrayList<>();
    private final List<Event> events = new ArrayList<>();
    private final List<int[]> payments = new ArrayList<>();
    private final Set<String> pacts = new TreeSet<>();
    private final int[] faults = new int[5];
    private int hour;

    int hour() {
        return hour;
    }

    int jobCount() {
        return jobs.size();
    }

    int pipeCount() {
        return pipes.size();
    }

    int wayCount() {
        return ways.size();
    }

    /** The first and the last metre of works; null if there are none. */
    int[] metresOf(int w) {
        return noJob(w) ? null : new int[] {jobs.get(w).from, jobs.get(w).to};
    }

    int streetOf(int w) {
        return noJob(w) ? -1 : jobs.get(w).street;
    }

    private int today() {
        return hour / 24;
    }

    private boolean noWay(int s) {
        return s < 0 || s >= ways.size();
    }

    private boolean noMetre(int s, int m) {
        return noWay(s) || m < 0 || m >= ways.get(s).metres;
    }

    private boolean noJob(int w) {
        return w < 0 || w >= jobs.size();
    }

    private boolean noPipe(int t) {
        return t < 0 || t >= pipes.size();
    }

    private static boolean not(int value, int low, int high) {
        return value < low || value > high;
    }

    private boolean busy() {
        return Set.of(7, 8, 9, 16, 17, 18).contains(hour % 24);
    }

    // ---- streets, things

    long street(int metres, int grade, int flow, int around) {
        if (around != -1 && noWay(around)) {
            return OUT;
        }
        if (not(metres, 1, 40) || not(grade, 0, 3) || not(flow, 0, 999)) {
            return WRONG;
        }
        if (ways.size() == 6) {
            return STATE;
        }
        Way w = new Way();
        w.metres = metres;
        w.grade = grade;
        w.flow = flow;
        w.around = around;
        ways.add(w);
        return ways.size() - 1;
    }

    long surface(int s) {
        if (noWay(s)) {
            return OUT;
        }
        for (int m = 0; m < ways.get(s).metres; m++) {
            if (openBy(s, m) != -1) {
                return STATE;
            }
        }
        events.add(new Event('S', s, 0, 39, -1, today(), 0));
        return today() + 99;
    }

    long embargo(int s, int from, int to) {
        if (noWay(s)) {
            return OUT;
        }
        if (not(from, 0, 999) || not(to, from, 999)) {
            return WRONG;
        }
        ways.get(s).embargo = span(from, to);
        int n = 0;
        for (int i = 0; i < jobs.size(); i++) {
            if (jobs.get(i).state == 1 && jobs.get(i).street == s && common(days(i, 0), ways.get(s).embargo)) {
                n++;
            }
        }
        return n;
    }

    long thing(int owner, int s, int from, int to, int depth) {
        if (not(owner, 0, 4) || noMetre(s, from) || noMetre(s, to)) {
            return OUT;
        }
        if (to < from || not(depth, 10, 300)) {
            return WRONG;
        }
        if (pipes.size() == 30) {
            return STATE;
        }
        Pipe p = new Pipe();
        p.owner = owner;
        p.street = s;
        p.from = from;
        p.to = to;
        p.depth = depth;
        pipes.add(p);
        events.add(new Event('L', s, from, to, -1, today(), 0));
        return pipes.size() - 1;
    }

    private Set<Integer> suspect(Pipe p) {
        Set<Integer> all = new TreeSet<>();
        for (int m = 0; m < ways.get(p.street).metres; m++) {
            if (p.record != null && m >= p.record[0] - p.record[2] && m <= p.record[1] + p.record[2]) {
                all.add(m);
            }
        }
        return all;
    }

    long record(int t, int from, int to, int off) {
        if (noPipe(t) || noMetre(pipes.get(t).street, from) || noMetre(pipes.get(t).street, to)) {
            return OUT;
        }
        if (to < from || not(off, 0, 3)) {
            return WRONG;
        }
        pipes.get(t).record = new int[] {from, to, off};
        return suspect(pipes.get(t)).size();
    }

    long lose(int t) {
        if (noPipe(t)) {
            return OUT;
        }
        long had = pipes.get(t).record == null ? 0 : 1;
        pipes.get(t).record = null;
        return had;
    }

    long survey(int t) {
        if (noPipe(t)) {
            return OUT;
        }
        Pipe p = pipes.get(t);
        boolean found = false;
        for (int m : span(p.from, p.to)) {
            found |= sure(p.street, m);
        }
        if (!found) {
            return STATE;
        }
        long were = suspect(p).size();
        p.record = new int[] {p.from, p.to, 0};
        return were;
    }

    long trial(int s, int m) {
        if (noMetre(s, m)) {
            return OUT;
        }
        events.add(new Event('T', s, m, m, -1, today(), 0));
        long n = 0;
        for (Pipe p : pipes) {
            n += p.street == s && span(p.from, p.to).contains(m) ? 1 : 0;
        }
        return n;
    }

    // ---- permits

    long ask(int p, int s, int from, int to, int depth, int kind, int day, int days) {
        if (not(p, 0, 4) || noMetre(s, from) || noMetre(s, to)) {
            return OUT;
        }
        if (to < from || not(depth, 10, 300) || not(kind, 0, 3) || not(days, 1, 60)) {
            return WRONG;
        }
        int notice = new int[] {20, 8, 3, 0}[kind] * (ways.get(s).grade < 2 ? 2 : 1);
        if (not(day, today() + notice, 999)) {
            return WRONG;
        }
        if (jobs.size() == 24) {
            return STATE;
        }
        Job j = new Job();
        j.promoter = p;
        j.street = s;
        j.from = from;
        j.to = to;
        j.depth = depth;
        j.kind = kind;
        j.first = day;
        j.days = days;
        j.asked = today();
        j.state = kind == 3 ? 1 : 0;
        jobs.add(j);
        return jobs.size() - 1;
    }

    private long cost(Job j) {
        return new long[] {60, 40, 20, 0}[j.kind] * (4 - ways.get(j.street).grade);
    }

    long grant(int w, int conditions) {
        if (noJob(w)) {
            return OUT;
        }
        if (not(conditions, 0, 3)) {
            return WRONG;
        }
        if (jobs.get(w).state != 0 || bars(w) != 0) {
            return STATE;
        }
        jobs.get(w).state = 1;
        jobs.get(w).conditions = conditions;
        pay(jobs.get(w).promoter, 5, cost(jobs.get(w)));
        return cost(jobs.get(w));
    }

    long refuse(int w) {
        if (noJob(w)) {
            return OUT;
        }
        int was = jobs.get(w).state;
        if (was > 1) {
            return STATE;
        }
        jobs.get(w).state = 2;
        return was;
    }

    long vary(int w, int conditions) {
        if (noJob(w)) {
            return OUT;
        }
        if (not(conditions, 0, 3)) {
            return WRONG;
        }
        if (!stands(w)) {
            return STATE;
        }
        jobs.get(w).conditions = conditions;
        return ++jobs.get(w).version;
    }

    long exempt(int w) {
        if (noJob(w)) {
            return OUT;
        }
        jobs.get(w).exempt = !jobs.get(w).exempt;
        return jobs.get(w).exempt ? 1 : 0;
    }

    private static String pact(int w, int v) {
        return Math.min(w, v) + " " + Math.max(w, v);
    }

    long agree(int w, int v) {
        if (noJob(w) || noJob(v)) {
            return OUT;
        }
        if (w == v) {
            return WRONG;
        }
        if (pacts.remove(pact(w, v))) {
            return 0;
        }
        pacts.add(pact(w, v));
        return 1;
    }

    // ---- digging

    private static Set<Integer> span(int from, int to) {
        Set<Integer> all = new TreeSet<>();
        for (int i = from; i <= to; i++) {
            all.add(i);
        }
        return all;
    }

    private static boolean common(Set<Integer> a, Set<Integer> b) {
        Set<Integer> both = new TreeSet<>(a);
        both.retainAll(b);
        return !both.isEmpty();
    }

    private int last(int w) {
        Job j = jobs.get(w);
        return j.first + j.days - 1 + 2 * j.extended;
    }

    private Set<Integer> days(int w, int more) {
        Set<Integer> all = span(jobs.get(w).first, last(w) + more);
        if (jobs.get(w).state == 3) {
            all.addAll(span(last(w) + more, today()));
        }
        return all;
    }

    long start(int w) {
        if (noJob(w)) {
            return OUT;
        }
        if (jobs.get(w).state != 1 || !days(w, 0).contains(today())) {
            return STATE;
        }
        jobs.get(w).state = 3;
        return last(w);
    }

    private boolean noMetreOf(int w, int m) {
        return noJob(w) || not(m, jobs.get(w).from, jobs.get(w).to);
    }

    private int openBy(int s, int m) {
        int by = -1;
        for (Event e : events) {
            if (e.at(s, m) && e.what == 'O') {
                by = e.works;
            }
            if (e.at(s, m) && e.what == 'F') {
                by = -1;
            }
        }
        return by;
    }

    private boolean sure(int s, int m) {
        boolean sure = false;
        for (Event e : events) {
            if (e.at(s, m)) {
                sure = e.what == 'O' || e.what == 'T' || (e.what != 'L' && sure);
            }
        }
        return sure;
    }

    long open(int w, int m) {
        if (noMetreOf(w, m)) {
            return OUT;
        }
        Job j = jobs.get(w);
        if (j.state != 3 || j.plates || (j.conditions % 2 == 1 && busy()) || openBy(j.street, m) != -1) {
            return STATE;
        }
        if (search(j.street, m, m) != 0 && !sure(j.street, m)) {
            return STATE;
        }
        long n = 0;
        for (Pipe p : pipes) {
            if (!sure(j.street, m) && p.street == j.street && p.from <= m && m <= p.to && p.depth <= j.depth) {
                pay(j.promoter, p.owner, 1000);
                j.finds++;
                n++;
            }
        }
        events.add(new Event('O', j.street, m, m, w, today(), 0));
        return n;
    }

    long fill(int w, int m, int density) {
        if (noMetreOf(w, m)) {
            return OUT;
        }
        if (not(density, 0, 100)) {
            return WRONG;
        }
        int s = jobs.get(w).street;
        if (openBy(s, m) != w) {
            return STATE;
        }
        events.add(new Event('F', s, m, m, w, today(), density));
        return fills(s, m).size();
    }

    private List<Event> fills(int s, int m) {
        List<Event> all = new ArrayList<>();
        for (Event e : events) {
            if (e.what == 'F' && e.at(s, m)) {
                all.add(e);
            }
        }
        return all;
    }

    long plate(int w) {
        if (noJob(w)) {
            return OUT;
        }
        if (jobs.get(w).state != 3) {
            return STATE;
        }
        jobs.get(w).plates = !jobs.get(w).plates;
        return jobs.get(w).plates ? 1 : 0;
    }

    long extend(int w) {
        if (noJob(w)) {
            return OUT;
        }
        Job j = jobs.get(w);
        if (j.state != 3 || j.finds <= j.extended) {
            return STATE;
        }
        for (int v = 0; v < jobs.size(); v++) {
            if (stands(v) && meet(w, v, 2)) {
                return STATE;
            }
        }
        j.extended++;
        return last(w);
    }

    private int openMetres(int w) {
        int n = 0;
        for (int m = jobs.get(w).from; m <= jobs.get(w).to; m++) {
            n += openBy(jobs.get(w).street, m) == w ? 1 : 0;
        }
        return n;
    }

    long stop(int w) {
        if (noJob(w)) {
            return OUT;
        }
        if (jobs.get(w).state != 3 || openMetres(w) > 0) {
            return STATE;
        }
        Set<Integer> behind = days(w, 0);
        behind.removeIf(d -> d <= last(w));
        jobs.get(w).state = 4;
        jobs.get(w).plates = false;
        return behind.size();
    }

    long pass(int hours) {
        if (not(hours, 1, 200)) {
            return WRONG;
        }
        if (hour + hours > 9999) {
            return STATE;
        }
        for (int i = 0; i < hours; i++) {
            hour++;
            hourGoesBy();
        }
        return hour;
    }

    private void hourGoesBy() {
        if (hour % 24 == 0) {
            for (int w = 0; w < jobs.size(); w++) {
                Job j = jobs.get(w);
                if (j.state == 0 && today() == j.asked + (j.kind == 2 ? 2 : 5)) {
                    if (grant(w, 0) == STATE) {
                        j.state = 2;
                    }
                }
            }
            for (int w = 0; w < jobs.size(); w++) {
                if (jobs.get(w).state == 3 && today() > last(w)) {
                    pay(jobs.get(w).promoter, 5, 500 * (4 - ways.get(jobs.get(w).street).grade));
                }
            }
        }
        List<Integer> takers = new ArrayList<>();
        for (int w = 0; w < jobs.size(); w++) {
            if (jobs.get(w).state == 3 && !jobs.get(w).plates && openMetres(w) > 0) {
                takers.add(w);
            }
        }
        if (busy()) {
            for (int w : takers) {
                rent(w, takers);
            }
        }
        queues(takers);
    }

    private void rent(int w, List<Integer> takers) {
        Job j = jobs.get(w);
        boolean half = false;
        for (int v : takers) {
            half |= v != w && jobs.get(v).street == j.street && pacts.contains(pact(w, v));
        }
        int rent = 50 * (4 - ways.get(j.street).grade);
        pay(j.promoter, 5, half ? rent / 2 : rent);
        if (j.conditions >= 2) {
            pay(j.promoter, 5, 200);
        }
    }

    private void queues(List<Integer> takers) {
        int[] came = new int[ways.size()];
        boolean[] taken = new boolean[ways.size()];
        for (int w : takers) {
            taken[jobs.get(w).street] = true;
        }
        for (int s = 0; s < ways.size(); s++) {
            Way way = ways.get(s);
            if (taken[s] && way.around != -1) {
                came[way.around] += way.flow / 2;
                came[s] += way.flow - way.flow / 2;
            } else {
                came[s] += way.flow;
            }
        }
        for (int s = 0; s < ways.size(); s++) {
            int through = new int[] {220, 180, 140, 100}[ways.get(s).grade] / (taken[s] ? 2 : 1);
            ways.get(s).queue = Math.max(0, ways.get(s).queue + came[s] - through);
        }
    }

    // ---- defects, cores

    long defect(int s, int m, int depth) {
        long w = liable(s, m, depth);
        if (w >= 0) {
            pay(jobs.get((int) w).promoter, 5, 300);
            faults[jobs.get((int) w).promoter]++;
        }
        return w;
    }

    long core(int s, int m) {
        if (noMetre(s, m)) {
            return OUT;
        }
        List<Event> all = fills(s, m);
        if (all.isEmpty() || all.get(all.size() - 1).cored) {
            return STATE;
        }
        Event e = all.get(all.size() - 1);
        e.cored = true;
        if (e.density < 80) {
            faults[jobs.get(e.works).promoter]++;
        }
        return e.density;
    }

    // ---- what is asked

    long liable(int s, int m, int depth) {
        if (noMetre(s, m)) {
            return OUT;
        }
        if (not(depth, 0, 300)) {
            return WRONG;
        }
        for (int i = events.size() - 1; i >= 0; i--) {
            Event e = events.get(i);
            if (e.what == 'S' && e.street == s && depth < 10) {
                return -1;
            }
            if (e.what == 'F' && e.at(s, m) && jobs.get(e.works).depth >= depth) {
                int longest = jobs.get(e.works).depth >= 120 ? 300 : 200;
                return today() - e.day > longest ? -1 : e.works;
            }
        }
        return -1;
    }

    private boolean stands(int w) {
        return jobs.get(w).state == 1 || jobs.get(w).state == 3;
    }

    private boolean ended(int w) {
        return jobs.get(w).state == 2 || jobs.get(w).state == 4;
    }

    private boolean meet(int w, int v, int more) {
        if (w == v || !(stands(w) || stands(v)) || ended(w) || ended(v)) {
            return false;
        }
        if (!common(days(w, more), days(v, 0)) || pacts.contains(pact(w, v))) {
            return false;
        }
        Job a = jobs.get(w);
        Job b = jobs.get(v);
        if (a.street != b.street) {
            return ways.get(a.street).around == b.street || ways.get(b.street).around == a.street;
        }
        int low = Math.min(a.to, b.to);
        int high = Math.max(a.from, b.from);
        return span(low + 1, high - 1).size() < 3;
    }

    long bars(int w) {
        if (noJob(w)) {
            return OUT;
        }
        Job j = jobs.get(w);
        if (j.kind == 3) {
            return 0;
        }
        if (common(days(w, 0), ways.get(j.street).embargo)) {
            return 1;
        }
        int surfaced = -1;
        for (Event e : events) {
            if (e.what == 'S' && e.street == j.street) {
                surfaced = e.day;
            }
        }
        if (surfaced != -1 && !j.exempt && common(days(w, 0), span(surfaced, surfaced + 99))) {
            return 2;
        }
        for (int v = 0; v < jobs.size(); v++) {
            if (stands(v) && meet(w, v, 0)) {
                return 3;
            }
        }
        return 0;
    }

    long meets(int w, int from) {
        if (noJob(w)) {
            return OUT;
        }
        if (from < 0) {
            return WRONG;
        }
        for (int v = from; v < jobs.size(); v++) {
            if (meet(w, v, 0)) {
                return v;
            }
        }
        return -1;
    }

    long of(int w, int what) {
        if (noJob(w)) {
            return OUT;
        }
        if (not(what, 0, 7)) {
            return WRONG;
        }
        Job j = jobs.get(w);
        return new long[] {j.state, last(w), j.conditions, j.version, j.finds - j.extended, openMetres(w),
            j.plates ? 1 : 0, j.exempt ? 1 : 0}[what];
    }

    long metre(int s, int m, int what) {
        if (noMetre(s, m)) {
            return OUT;
        }
        if (not(what, 0, 3)) {
            return WRONG;
        }
        return new long[] {search(s, m, m) == 0 ? 0 : 1, sure(s, m) ? 1 : 0, openBy(s, m), fills(s, m).size()}[what];
    }

    long search(int s, int from, int to) {
        if (noMetre(s, from) || noMetre(s, to)) {
            return OUT;
        }
        if (to < from) {
            return WRONG;
        }
        long set = 0;
        for (int t = 0; t < pipes.size(); t++) {
            if (pipes.get(t).street == s && common(suspect(pipes.get(t)), span(from, to))) {
                set += 1L << t;
            }
        }
        return set;
    }

    long queue(int s) {
        return noWay(s) ? OUT : ways.get(s).queue;
    }

    long due(int p) {
        if (not(p, 0, 4)) {
            return OUT;
        }
        int all = 0;
        int cored = 0;
        for (Event e : events) {
            if (e.what == 'F' && jobs.get(e.works).promoter == p) {
                all++;
                cored += e.cored ? 1 : 0;
            }
        }
        int hundredths = Math.min(50, 5 + 5 * faults[p]);
        int cores = 0;
        while (cores * 100 < all * hundredths) {
            cores++;
        }
        return Math.max(0, cores - cored);
    }

    private void pay(int from, int to, long amount) {
        payments.add(new int[] {from, to, (int) amount});
    }

    long money(int who) {
        if (not(who, 0, 5)) {
            return OUT;
        }
        long sum = 0;
        for (int[] p : payments) {
            sum += (p[1] == who ? p[2] : 0) - (p[0] == who ? p[2] : 0);
        }
        return sum;
    }
}
