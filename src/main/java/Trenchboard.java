import java.util.ArrayList;
import java.util.Arrays;

/** Everyone who digs up a street: the document's promises 1 to 35. */
public final class Trenchboard {
    public static final int NONE = -1;
    public static final int BOARD = 5;
    public static final int MAJOR = 0, STANDARD = 1, MINOR = 2, URGENT = 3;
    public static final int ASKED = 0, GRANTED = 1, REFUSED = 2, RUN = 3, DONE = 4;
    public static final int QUIET = 1, COVERED = 2;

    private static final int MOST_STREETS = 6;
    private static final int MOST_METRES = 40;
    private static final int MOST_THINGS = 30;
    private static final int MOST_WORKS = 24;
    private static final int MOST_CALLS = 512;
    private static final int LAST_HOUR = 9999;
    private static final int LAST_DAY = 999;
    private static final int DAYS_NEW = 99;
    private static final int DAYS_OF_A_FIND = 2;
    private static final int STRIKE = 1000;
    private static final int LATE_FINE = 500;
    private static final int BARE_FINE = 200;
    private static final int RENT = 50;
    private static final int DEFECT_FINE = 300;

    private final Street[] streets = new Street[MOST_STREETS];
    private int streetCount;
    private final Thing[] things = new Thing[MOST_THINGS];
    private int thingCount;
    private final Works[] allWorks = new Works[MOST_WORKS];
    private int worksCount;
    private final Party[] parties = new Party[BOARD + 1];
    private final Ledger ledger = new Ledger();
    private final ArrayList<Telling> tellings = new ArrayList<Telling>();
    private int hour;

    public Trenchboard() {
        for (int i = 0; i < parties.length; i++) {
            parties[i] = new Party();
        }
    }

    // ---- streets, things

    public int street(int metres, int grade, int flow, int around) throws IndexOutOfBoundsException, IllegalArgumentException, IllegalStateException {
        Street way = streetAt(around);
        if (way == null && around != NONE) {
            throw new IndexOutOfBoundsException("no such way around");
        }
        if (metres < 1 || metres > MOST_METRES || grade < 0 || grade > 3 || flow < 0 || flow > 999) {
            throw new IllegalArgumentException("metres, class or flow out of range");
        }
        if (streetCount >= streets.length) {
            throw new IllegalStateException("no more streets");
        }
        streets[streetCount] = new Street(streetCount, metres, grade, flow, way);
        streetCount++;
        return streetCount - 1;
    }

    public int surface(int street) throws IndexOutOfBoundsException, IllegalStateException {
        Street s = streetAt(street);
        if (s == null) {
            throw new IndexOutOfBoundsException("no such street");
        }
        if (s.hasOpenMetre()) {
            throw new IllegalStateException("a metre is open");
        }
        s.surfacedOn = today();
        s.surfacedAfter = tellings.size();
        tell(new Telling(s, NONE, null, s.surfacedOn));
        return s.surfacedOn + DAYS_NEW;
    }

    public int embargo(int street, int from, int to) throws IndexOutOfBoundsException, IllegalArgumentException {
        Street s = streetAt(street);
        if (s == null) {
            throw new IndexOutOfBoundsException("no such street");
        }
        if (from < 0 || from > LAST_DAY || to < from || to > LAST_DAY) {
            throw new IllegalArgumentException("days out of range");
        }
        s.embargoFrom = from;
        s.embargoTo = to;
        int caught = 0;
        for (int i = 0; i < allWorks.length; i++) {
            Works w = allWorks[i];
            if (w != null && w.street == s && w.state == GRANTED && s.hasEmbargoIn(w.first, w.last)) {
                caught++;
            }
        }
        return caught;
    }

    public int thing(int owner, int street, int from, int to, int depth) throws IndexOutOfBoundsException, IllegalArgumentException, IllegalStateException {
        Street s = streetAt(street);
        if (!isPromoter(owner) || s == null || s.metreAt(from) == null || s.metreAt(to) == null) {
            throw new IndexOutOfBoundsException("no such promoter, street or metre");
        }
        if (to < from || depth < 10 || depth > 300) {
            throw new IllegalArgumentException("metres the wrong way round, or depth out of range");
        }
        if (thingCount >= things.length) {
            throw new IllegalStateException("no more things");
        }
        things[thingCount] = new Thing(owner, s, from, to, depth);
        thingCount++;
        for (int i = from; i <= to; i++) {
            Metre m = s.metreAt(i);
            if (m != null) {
                m.sure = false;
            }
        }
        return thingCount - 1;
    }

    public int record(int thing, int from, int to, int off) throws IndexOutOfBoundsException, IllegalArgumentException {
        Thing t = thingAt(thing);
        if (t == null || t.street.metreAt(from) == null || t.street.metreAt(to) == null) {
            throw new IndexOutOfBoundsException("no such thing or metre");
        }
        if (to < from || off < 0 || off > 3) {
            throw new IllegalArgumentException("metres the wrong way round, or off out of range");
        }
        t.putRecord(from, to, off);
        return t.suspectMetres();
    }

    public boolean lose(int thing) throws IndexOutOfBoundsException {
        Thing t = thingAt(thing);
        if (t == null) {
            throw new IndexOutOfBoundsException("no such thing");
        }
        boolean had = t.recorded;
        t.recorded = false;
        return had;
    }

    public int survey(int thing) throws IndexOutOfBoundsException, IllegalStateException {
        Thing t = thingAt(thing);
        if (t == null) {
            throw new IndexOutOfBoundsException("no such thing");
        }
        if (!t.liesInSureMetre()) {
            throw new IllegalStateException("no metre of it is sure");
        }
        int before = t.suspectMetres();
        t.putRecord(t.from, t.to, 0);
        return before;
    }

    public int trial(int street, int metre) throws IndexOutOfBoundsException {
        Street s = streetAt(street);
        Metre m = s == null ? null : s.metreAt(metre);
        if (s == null || m == null) {
            throw new IndexOutOfBoundsException("no such street or metre");
        }
        m.sure = true;
        int found = 0;
        for (int i = 0; i < things.length; i++) {
            Thing t = things[i];
            if (t != null && t.liesAt(s, metre)) {
                found++;
            }
        }
        return found;
    }

    // ---- permits

    public int ask(int promoter, int street, int from, int to, int depth, int kind, int day, int days) throws IndexOutOfBoundsException, IllegalArgumentException, IllegalStateException {
        Street s = streetAt(street);
        if (!isPromoter(promoter) || s == null || s.metreAt(from) == null || s.metreAt(to) == null) {
            throw new IndexOutOfBoundsException("no such promoter, street or metre");
        }
        if (to < from || depth < 10 || depth > 300 || kind < MAJOR || kind > URGENT) {
            throw new IllegalArgumentException("metres the wrong way round, depth or kind out of range");
        }
        if (day < today() + s.noticeOf(kind) || day > LAST_DAY || days < 1 || days > 60) {
            throw new IllegalArgumentException("day or days out of range");
        }
        if (worksCount >= allWorks.length) {
            throw new IllegalStateException("no more works");
        }
        Works w = new Works(worksCount, promoter, s, kind, today());
        w.placeAt(from, to, depth);
        w.planFor(day, days);
        allWorks[worksCount] = w;
        worksCount++;
        return w.number;
    }

    public int grant(int works, int conditions) throws IndexOutOfBoundsException, IllegalArgumentException, IllegalStateException {
        Works w = worksAt(works);
        if (w == null) {
            throw new IndexOutOfBoundsException("no such works");
        }
        if (conditions < 0 || conditions > 3) {
            throw new IllegalArgumentException("conditions out of range");
        }
        if (w.state != ASKED || whatBars(w) != 0) {
            throw new IllegalStateException("not asked, or barred");
        }
        permit(w, conditions);
        return w.permitCost();
    }

    public int refuse(int works) throws IndexOutOfBoundsException, IllegalStateException {
        Works w = worksAt(works);
        if (w == null) {
            throw new IndexOutOfBoundsException("no such works");
        }
        if (w.state != ASKED && w.state != GRANTED) {
            throw new IllegalStateException("neither asked nor granted");
        }
        int before = w.state;
        w.state = REFUSED;
        return before;
    }

    public int vary(int works, int conditions) throws IndexOutOfBoundsException, IllegalArgumentException, IllegalStateException {
        Works w = worksAt(works);
        if (w == null) {
            throw new IndexOutOfBoundsException("no such works");
        }
        if (conditions < 0 || conditions > 3) {
            throw new IllegalArgumentException("conditions out of range");
        }
        if (!w.isStanding()) {
            throw new IllegalStateException("neither granted nor run");
        }
        w.conditions = conditions;
        w.version++;
        return w.version;
    }

    public boolean exempt(int works) throws IndexOutOfBoundsException {
        Works w = worksAt(works);
        if (w == null) {
            throw new IndexOutOfBoundsException("no such works");
        }
        w.exempted = !w.exempted;
        return w.exempted;
    }

    public boolean agree(int works, int other) throws IndexOutOfBoundsException, IllegalArgumentException {
        Works w = worksAt(works);
        Works v = worksAt(other);
        if (w == null || v == null) {
            throw new IndexOutOfBoundsException("no such works");
        }
        if (works == other) {
            throw new IllegalArgumentException("the same works twice");
        }
        w.agreeing ^= v.bit();
        v.agreeing ^= w.bit();
        return w.agreesWith(v);
    }

    // ---- digging

    public int start(int works) throws IndexOutOfBoundsException, IllegalStateException {
        Works w = worksAt(works);
        if (w == null) {
            throw new IndexOutOfBoundsException("no such works");
        }
        if (w.state != GRANTED || today() < w.first || today() > w.last) {
            throw new IllegalStateException("not granted, or on none of their days");
        }
        w.state = RUN;
        return w.last;
    }

    public int open(int works, int metre) throws IndexOutOfBoundsException, IllegalStateException {
        Works w = worksAt(works);
        Metre m = w == null ? null : w.ownMetreAt(metre);
        if (w == null || m == null) {
            throw new IndexOutOfBoundsException("no such works, or no metre of theirs");
        }
        if (w.state != RUN || w.plated || (w.hasCondition(QUIET) && isBusy())) {
            throw new IllegalStateException("not run, plated, or to be quiet");
        }
        if (m.openBy != NONE || (!m.sure && isSuspect(w.street, metre))) {
            throw new IllegalStateException("open, or suspect and not sure");
        }
        int struck = m.sure ? 0 : strikeThings(w, metre);
        m.sure = true;
        m.openBy = w.number;
        w.openMetres++;
        return struck;
    }

    public int fill(int works, int metre, int density) throws IndexOutOfBoundsException, IllegalArgumentException, IllegalStateException {
        Works w = worksAt(works);
        Metre m = w == null ? null : w.ownMetreAt(metre);
        if (w == null || m == null) {
            throw new IndexOutOfBoundsException("no such works, or no metre of theirs");
        }
        if (density < 0 || density > 100) {
            throw new IllegalArgumentException("density out of range");
        }
        if (m.openBy != w.number) {
            throw new IllegalStateException("not open by these works");
        }
        m.openBy = NONE;
        w.openMetres--;
        if (tellings.size() < MOST_CALLS) {
            m.latest = new Fill(w, today(), density, tellings.size(), m.latest);
            m.fills++;
            tell(new Telling(w.street, metre, w, today()));
            countFill(w.promoter);
        }
        return m.fills;
    }

    public boolean plate(int works) throws IndexOutOfBoundsException, IllegalStateException {
        Works w = worksAt(works);
        if (w == null) {
            throw new IndexOutOfBoundsException("no such works");
        }
        if (w.state != RUN) {
            throw new IllegalStateException("not run");
        }
        w.plated = !w.plated;
        return w.plated;
    }

    public int extend(int works) throws IndexOutOfBoundsException, IllegalStateException {
        Works w = worksAt(works);
        if (w == null) {
            throw new IndexOutOfBoundsException("no such works");
        }
        if (w.state != RUN || w.finds < 1) {
            throw new IllegalStateException("not run, or no find for it");
        }
        int end = Math.max(w.last + DAYS_OF_A_FIND, today());
        if (firstMet(w, end, 0, true) != NONE) {
            throw new IllegalStateException("would meet others");
        }
        w.finds--;
        w.last += DAYS_OF_A_FIND;
        return w.last;
    }

    public int stop(int works) throws IndexOutOfBoundsException, IllegalStateException {
        Works w = worksAt(works);
        if (w == null) {
            throw new IndexOutOfBoundsException("no such works");
        }
        if (w.state != RUN || w.openMetres > 0) {
            throw new IllegalStateException("not run, or a metre is open");
        }
        int behind = w.endOn(today()) - w.last;
        w.state = DONE;
        w.plated = false;
        return behind;
    }

    public int pass(int hours) throws IllegalArgumentException, IllegalStateException {
        if (hours < 1 || hours > 200) {
            throw new IllegalArgumentException("hours out of range");
        }
        if (hour + hours > LAST_HOUR) {
            throw new IllegalStateException("too late an hour");
        }
        for (int i = 0; i < hours; i++) {
            goOneHour();
        }
        return hour;
    }

    // ---- defects, cores

    public int defect(int street, int metre, int depth) throws IndexOutOfBoundsException, IllegalArgumentException {
        Street s = streetAt(street);
        Metre m = s == null ? null : s.metreAt(metre);
        if (s == null || m == null) {
            throw new IndexOutOfBoundsException("no such street or metre");
        }
        if (depth < 0 || depth > 300) {
            throw new IllegalArgumentException("depth out of range");
        }
        Works w = whoIsLiable(s, m, depth);
        if (w == null) {
            return NONE;
        }
        pay(w.promoter, BOARD, DEFECT_FINE);
        countFault(w.promoter);
        return w.number;
    }

    public int core(int street, int metre) throws IndexOutOfBoundsException, IllegalStateException {
        Street s = streetAt(street);
        Metre m = s == null ? null : s.metreAt(metre);
        if (s == null || m == null) {
            throw new IndexOutOfBoundsException("no such street or metre");
        }
        Fill f = m.latest;
        if (f == null || f.cored) {
            throw new IllegalStateException("no fill, or it was cored");
        }
        f.cored = true;
        countCore(f.by.promoter);
        if (f.density < 80) {
            countFault(f.by.promoter);
        }
        return f.density;
    }

    // ---- what is asked

    public int liable(int street, int metre, int depth) throws IndexOutOfBoundsException, IllegalArgumentException {
        Street s = streetAt(street);
        Metre m = s == null ? null : s.metreAt(metre);
        if (s == null || m == null) {
            throw new IndexOutOfBoundsException("no such street or metre");
        }
        if (depth < 0 || depth > 300) {
            throw new IllegalArgumentException("depth out of range");
        }
        return numberOf(whoIsLiable(s, m, depth));
    }

    public int liableAnew(int street, int metre, int depth) throws IndexOutOfBoundsException, IllegalArgumentException {
        Street s = streetAt(street);
        Metre m = s == null ? null : s.metreAt(metre);
        if (s == null || m == null) {
            throw new IndexOutOfBoundsException("no such street or metre");
        }
        if (depth < 0 || depth > 300) {
            throw new IllegalArgumentException("depth out of range");
        }
        Works found = null;
        int filledOn = 0;
        boolean surfaced = false;
        for (int i = 0; i < tellings.size(); i++) {
            Telling t = tellings.get(i);
            if (t.isFillOf(s, metre) && t.by.depth >= depth) {
                found = t.by;
                filledOn = t.day;
                surfaced = false;
            } else if (t.isSurfaceOf(s)) {
                surfaced = true;
            }
        }
        if (found == null || today() - filledOn > found.daysLiable() || (surfaced && depth < 10)) {
            return NONE;
        }
        return found.number;
    }

    public int bars(int works) throws IndexOutOfBoundsException {
        Works w = worksAt(works);
        if (w == null) {
            throw new IndexOutOfBoundsException("no such works");
        }
        return whatBars(w);
    }

    public int meets(int works, int from) throws IndexOutOfBoundsException, IllegalArgumentException {
        Works w = worksAt(works);
        if (w == null) {
            throw new IndexOutOfBoundsException("no such works");
        }
        if (from < 0) {
            throw new IllegalArgumentException("from below 0");
        }
        return firstMet(w, w.endOn(today()), from, false);
    }

    public int of(int works, int what) throws IndexOutOfBoundsException, IllegalArgumentException {
        Works w = worksAt(works);
        if (w == null) {
            throw new IndexOutOfBoundsException("no such works");
        }
        switch (what) {
            case 0: return w.state;
            case 1: return w.last;
            case 2: return w.conditions;
            case 3: return w.version;
            case 4: return w.finds;
            case 5: return w.openMetres;
            case 6: return w.plated ? 1 : 0;
            case 7: return w.exempted ? 1 : 0;
            default: throw new IllegalArgumentException("what out of range");
        }
    }

    public int metre(int street, int metre, int what) throws IndexOutOfBoundsException, IllegalArgumentException {
        Street s = streetAt(street);
        Metre m = s == null ? null : s.metreAt(metre);
        if (s == null || m == null) {
            throw new IndexOutOfBoundsException("no such street or metre");
        }
        switch (what) {
            case 0: return isSuspect(s, metre) ? 1 : 0;
            case 1: return m.sure ? 1 : 0;
            case 2: return m.openBy;
            case 3: return m.fills;
            default: throw new IllegalArgumentException("what out of range");
        }
    }

    public int search(int street, int from, int to) throws IndexOutOfBoundsException, IllegalArgumentException {
        Street s = streetAt(street);
        if (s == null || s.metreAt(from) == null || s.metreAt(to) == null) {
            throw new IndexOutOfBoundsException("no such street or metre");
        }
        if (to < from) {
            throw new IllegalArgumentException("metres the wrong way round");
        }
        return suspects(s, from, to);
    }

    public int queue(int street) throws IndexOutOfBoundsException {
        Street s = streetAt(street);
        if (s == null) {
            throw new IndexOutOfBoundsException("no such street");
        }
        return s.waiting;
    }

    public int due(int promoter) throws IndexOutOfBoundsException {
        Party p = partyAt(promoter);
        if (p == null || !isPromoter(promoter)) {
            throw new IndexOutOfBoundsException("no such promoter");
        }
        // Faults beyond 9 change nothing, as 50 hundredths are the most.
        int hundredths = 5 + 5 * Math.min(p.faults, 9);
        return Math.max((p.fills * hundredths + 99) / 100 - p.cores, 0);
    }

    public long money(int who) throws IndexOutOfBoundsException {
        Party p = partyAt(who);
        if (p == null) {
            throw new IndexOutOfBoundsException("no such promoter, nor the board");
        }
        return p.balance;
    }

    public long moneyAnew(int who) throws IndexOutOfBoundsException {
        if (partyAt(who) == null) {
            throw new IndexOutOfBoundsException("no such promoter, nor the board");
        }
        return ledger.balanceOf(who);
    }

    // ---- what is there: null tells that it is not

    private Street streetAt(int i) {
        return i >= 0 && i < streets.length ? streets[i] : null;
    }

    private Thing thingAt(int i) {
        return i >= 0 && i < things.length ? things[i] : null;
    }

    private Works worksAt(int i) {
        return i >= 0 && i < allWorks.length ? allWorks[i] : null;
    }

    private Party partyAt(int i) {
        return i >= 0 && i < parties.length ? parties[i] : null;
    }

    private static boolean isPromoter(int i) {
        return i >= 0 && i < BOARD;
    }

    private static int numberOf(Works w) {
        return w == null ? NONE : w.number;
    }

    // ---- hours and days

    private int today() {
        return hour / 24;
    }

    private boolean isBusy() {
        int h = hour % 24;
        return (h >= 7 && h <= 9) || (h >= 16 && h <= 18);
    }

    /** Whether the days from one to another one have a day of those from a third to a fourth one. */
    private static boolean overlap(int from, int to, int otherFrom, int otherTo) {
        return from <= otherTo && otherFrom <= to;
    }

    // ---- what is told: kept in its order, for liableAnew

    private void tell(Telling t) {
        // Calls behind the 512th one are free: what they tell needs no room.
        if (tellings.size() < MOST_CALLS) {
            tellings.add(t);
        }
    }

    private void countFill(int promoter) {
        Party p = partyAt(promoter);
        if (p != null) {
            p.fills++;
        }
    }

    private void countFault(int promoter) {
        Party p = partyAt(promoter);
        if (p != null) {
            p.faults++;
        }
    }

    private void countCore(int promoter) {
        Party p = partyAt(promoter);
        if (p != null) {
            p.cores++;
        }
    }

    private void pay(int payer, int payee, int amount) {
        Party from = partyAt(payer);
        Party to = partyAt(payee);
        if (from != null && to != null) {
            from.balance -= amount;
            to.balance += amount;
            ledger.enter(payer, payee, amount);
        }
    }

    // ---- things in the ground

    private int suspects(Street s, int from, int to) {
        int set = 0;
        for (int i = 0; i < things.length; i++) {
            Thing t = things[i];
            if (t != null && t.street == s && t.recorded
                    && overlap(from, to, t.suspectFrom, t.suspectTo)) {
                set |= 1 << i;
            }
        }
        return set;
    }

    private boolean isSuspect(Street s, int metre) {
        return suspects(s, metre, metre) != 0;
    }

    private int strikeThings(Works w, int metre) {
        int struck = 0;
        for (int i = 0; i < things.length; i++) {
            Thing t = things[i];
            if (t != null && t.liesAt(w.street, metre) && t.depth <= w.depth) {
                pay(w.promoter, t.owner, STRIKE);
                struck++;
            }
        }
        w.finds += struck;
        return struck;
    }

    // ---- permits

    private void permit(Works w, int conditions) {
        w.state = GRANTED;
        w.conditions = conditions;
        pay(w.promoter, BOARD, w.permitCost());
    }

    private int whatBars(Works w) {
        if (w.kind == URGENT) {
            return 0;
        }
        int end = w.endOn(today());
        if (w.street.hasEmbargoIn(w.first, end)) {
            return 1;
        }
        if (!w.exempted && w.street.isNewIn(w.first, end)) {
            return 2;
        }
        return firstMet(w, end, 0, true) == NONE ? 0 : 3;
    }

    /** The lowest works, from one on, that w meets if its days end as told here: of all, or of those that stand. */
    private int firstMet(Works w, int end, int from, boolean standingOnly) {
        for (int i = from; i < allWorks.length; i++) {
            Works v = worksAt(i);
            if (v == null || v == w || (standingOnly && !v.isStanding())) {
                continue;
            }
            if (Works.mayMeet(w, v) && overlap(w.first, end, v.first, v.endOn(today()))
                    && !w.agreesWith(v) && Works.areNear(w, v)) {
                return i;
            }
        }
        return NONE;
    }

    // ---- hours that go by

    private void goOneHour() {
        hour++;
        if (hour % 24 == 0) {
            settleAsked();
            fineLate();
        }
        takeStreets();
        if (isBusy()) {
            chargeTakers();
        }
        moveQueues();
    }

    private void settleAsked() {
        for (int i = 0; i < allWorks.length; i++) {
            Works w = allWorks[i];
            if (w != null && w.state == ASKED && w.settledOn() == today()) {
                if (whatBars(w) == 0) {
                    permit(w, 0);
                } else {
                    w.state = REFUSED;
                }
            }
        }
    }

    private void fineLate() {
        for (int i = 0; i < allWorks.length; i++) {
            Works w = allWorks[i];
            if (w != null && w.state == RUN && w.last < today()) {
                pay(w.promoter, BOARD, LATE_FINE * w.street.weight());
            }
        }
    }

    private void takeStreets() {
        for (int i = 0; i < streets.length; i++) {
            Street s = streets[i];
            if (s != null) {
                s.takers = 0;
            }
        }
        for (int i = 0; i < allWorks.length; i++) {
            Works w = allWorks[i];
            if (w != null && w.takesStreet()) {
                w.street.takers |= w.bit();
            }
        }
    }

    private void chargeTakers() {
        for (int i = 0; i < allWorks.length; i++) {
            Works w = allWorks[i];
            if (w != null && w.takesStreet()) {
                int rent = RENT * w.street.weight();
                boolean shared = (w.street.takers & w.agreeing) != 0;
                pay(w.promoter, BOARD, shared ? rent / 2 : rent);
                if (w.hasCondition(COVERED)) {
                    pay(w.promoter, BOARD, BARE_FINE);
                }
            }
        }
    }

    private void moveQueues() {
        // All flows come before any gets through, as a way around is an earlier street.
        for (int i = 0; i < streets.length; i++) {
            Street s = streets[i];
            if (s != null) {
                s.sendFlow();
            }
        }
        for (int i = 0; i < streets.length; i++) {
            Street s = streets[i];
            if (s != null) {
                s.letThrough();
            }
        }
    }

    // ---- filled metres

    private Works whoIsLiable(Street s, Metre m, int depth) {
        Fill f = m.latestAsDeepAs(depth);
        if (f == null || today() - f.day > f.by.daysLiable()) {
            return null;
        }
        // A new surface takes the blame for what shows in the surface alone.
        if (depth < 10 && s.surfacedAfter > f.place) {
            return null;
        }
        return f.by;
    }

    private static final class Street {
        final int number;
        final int grade;
        final int flow;
        final Street around;
        final Metre[] metres;
        int embargoFrom = NONE;
        int embargoTo = NONE;
        int surfacedOn = NONE;
        /** The place of the latest surface among all that was told. */
        int surfacedAfter = NONE;
        /** The works that take it in this hour, as bits. */
        int takers;
        int coming;
        int waiting;

        Street(int number, int length, int grade, int flow, Street around) {
            this.number = number;
            this.grade = grade;
            this.flow = flow;
            this.around = around;
            metres = new Metre[Math.max(length, 0)];
            for (int i = 0; i < metres.length; i++) {
                metres[i] = new Metre();
            }
        }

        Metre metreAt(int i) {
            return i >= 0 && i < metres.length ? metres[i] : null;
        }

        boolean hasOpenMetre() {
            for (int i = 0; i < metres.length; i++) {
                Metre m = metres[i];
                if (m != null && m.openBy != NONE) {
                    return true;
                }
            }
            return false;
        }

        boolean hasEmbargoIn(int from, int to) {
            return embargoFrom != NONE && overlap(from, to, embargoFrom, embargoTo);
        }

        boolean isNewIn(int from, int to) {
            return surfacedOn != NONE && overlap(from, to, surfacedOn, surfacedOn + DAYS_NEW);
        }

        int weight() {
            return 4 - grade;
        }

        int noticeOf(int kind) {
            int days = kind == MAJOR ? 20 : kind == STANDARD ? 8 : kind == MINOR ? 3 : 0;
            return grade <= 1 ? 2 * days : days;
        }

        void sendFlow() {
            int away = 0;
            if (takers != 0 && around != null) {
                away = flow / 2;
                around.coming += away;
            }
            coming += flow - away;
        }

        void letThrough() {
            int through = 100 + 40 * (3 - grade);
            if (takers != 0) {
                through = through / 2;
            }
            waiting = Math.max(waiting + coming - through, 0);
            coming = 0;
        }
    }

    private static final class Metre {
        boolean sure;
        int openBy = NONE;
        int fills;
        Fill latest;

        Fill latestAsDeepAs(int depth) {
            for (Fill f = latest; f != null; f = f.below) {
                if (f.by.depth >= depth) {
                    return f;
                }
            }
            return null;
        }
    }

    private static final class Fill {
        final Works by;
        final int day;
        final int density;
        /** Its place among all that was told. */
        final int place;
        final Fill below;
        boolean cored;

        Fill(Works by, int day, int density, int place, Fill below) {
            this.by = by;
            this.day = day;
            this.density = density;
            this.place = place;
            this.below = below;
        }
    }

    /** A fill, or, with nobody by whom it is, a surface. */
    private static final class Telling {
        final Street street;
        final int metre;
        final Works by;
        final int day;

        Telling(Street street, int metre, Works by, int day) {
            this.street = street;
            this.metre = metre;
            this.by = by;
            this.day = day;
        }

        boolean isFillOf(Street s, int m) {
            return by != null && street == s && metre == m;
        }

        boolean isSurfaceOf(Street s) {
            return by == null && street == s;
        }
    }

    private static final class Thing {
        final int owner;
        final Street street;
        final int from;
        final int to;
        final int depth;
        boolean recorded;
        int suspectFrom;
        int suspectTo;

        Thing(int owner, Street street, int from, int to, int depth) {
            this.owner = owner;
            this.street = street;
            this.from = from;
            this.to = to;
            this.depth = depth;
        }

        void putRecord(int first, int last, int off) {
            recorded = true;
            suspectFrom = Math.max(first - off, 0);
            suspectTo = Math.min(last + off, street.metres.length - 1);
        }

        int suspectMetres() {
            return recorded ? suspectTo - suspectFrom + 1 : 0;
        }

        boolean liesAt(Street s, int metre) {
            return street == s && from <= metre && metre <= to;
        }

        boolean liesInSureMetre() {
            for (int i = from; i <= to; i++) {
                Metre m = street.metreAt(i);
                if (m != null && m.sure) {
                    return true;
                }
            }
            return false;
        }
    }

    private static final class Works {
        final int number;
        final int promoter;
        final Street street;
        final int kind;
        final int askedOn;
        int from;
        int to;
        int depth;
        int first;
        /** The last day, as told and extended. */
        int last;
        int state;
        int conditions;
        int version;
        /** Those by which they were not extended yet. */
        int finds;
        /** The works that agree with these, as bits. */
        int agreeing;
        int openMetres;
        boolean plated;
        boolean exempted;

        Works(int number, int promoter, Street street, int kind, int askedOn) {
            this.number = number;
            this.promoter = promoter;
            this.street = street;
            this.kind = kind;
            this.askedOn = askedOn;
            state = kind == URGENT ? GRANTED : ASKED;
        }

        void placeAt(int fromMetre, int toMetre, int depthOfAll) {
            from = fromMetre;
            to = toMetre;
            depth = depthOfAll;
        }

        void planFor(int day, int days) {
            first = day;
            last = day + days - 1;
        }

        int bit() {
            return 1 << number;
        }

        boolean agreesWith(Works v) {
            return (agreeing & v.bit()) != 0;
        }

        boolean isStanding() {
            return state == GRANTED || state == RUN;
        }

        boolean isOver() {
            return state == REFUSED || state == DONE;
        }

        boolean hasCondition(int condition) {
            return (conditions & condition) != 0;
        }

        boolean takesStreet() {
            return state == RUN && openMetres > 0 && !plated;
        }

        /** The last of their days: works that run late have those up to today, too. */
        int endOn(int today) {
            return state == RUN ? Math.max(last, today) : last;
        }

        int settledOn() {
            return askedOn + (kind == MINOR ? 2 : 5);
        }

        int permitCost() {
            int base = kind == MAJOR ? 60 : kind == STANDARD ? 40 : kind == MINOR ? 20 : 0;
            return base * street.weight();
        }

        int daysLiable() {
            return depth >= 120 ? 300 : 200;
        }

        Metre ownMetreAt(int metre) {
            return metre >= from && metre <= to ? street.metreAt(metre) : null;
        }

        static boolean mayMeet(Works a, Works b) {
            return (a.isStanding() && !b.isOver()) || (b.isStanding() && !a.isOver());
        }

        static boolean areNear(Works a, Works b) {
            if (a.street == b.street) {
                int between = Math.max(a.from, b.from) - Math.min(a.to, b.to) - 1;
                return between < 3;
            }
            return a.street.around == b.street || b.street.around == a.street;
        }
    }

    private static final class Party {
        long balance;
        int fills;
        int faults;
        int cores;
    }

    /** All payments, one in an int each, as a long run has more than a hundred thousand. */
    private static final class Ledger {
        /** Far above what 9999 hours and 512 calls can pay. */
        static final int MOST_ROWS = 262144;

        int[] rows = new int[64];
        int size;

        void enter(int payer, int payee, int amount) {
            if (size >= rows.length && size < MOST_ROWS) {
                rows = Arrays.copyOf(rows, 2 * size);
            }
            if (size < rows.length) {
                rows[size] = amount * 64 + payer * 8 + payee;
                size++;
            }
        }

        long balanceOf(int who) {
            long balance = 0;
            for (int i = 0; i < size && i < rows.length; i++) {
                int amount = rows[i] / 64;
                if (rows[i] / 8 % 8 == who) {
                    balance -= amount;
                }
                if (rows[i] % 8 == who) {
                    balance += amount;
                }
            }
            return balance;
        }
    }
}
