/** Each promise by hand: ordinary inputs, the edges that the document names, and wrong inputs. */
public final class PromisesTest {
    private static final int NONE = Trenchboard.NONE;
    private static final int BOARD = Trenchboard.BOARD;
    private static final int MAJOR = Trenchboard.MAJOR, STANDARD = Trenchboard.STANDARD;
    private static final int MINOR = Trenchboard.MINOR, URGENT = Trenchboard.URGENT;
    private static final int ASKED = Trenchboard.ASKED, GRANTED = Trenchboard.GRANTED, REFUSED = Trenchboard.REFUSED;
    private static final int RUN = Trenchboard.RUN, DONE = Trenchboard.DONE;
    private static final int QUIET = Trenchboard.QUIET, COVERED = Trenchboard.COVERED;
    private static final int MAX = Integer.MAX_VALUE, MIN = Integer.MIN_VALUE;

    private static final Check c = new Check();

    public static void main(String[] args) {
        newObject();
        street();
        surface();
        embargo();
        thing();
        record();
        loseAndSurvey();
        trial();
        ask();
        notices();
        grant();
        costs();
        refuse();
        vary();
        exempt();
        agree();
        start();
        open();
        strikes();
        fill();
        plate();
        extend();
        extendMeets();
        stop();
        pass();
        settling();
        lateFines();
        rents();
        queues();
        defect();
        core();
        liability();
        bars();
        meets();
        of();
        metre();
        search();
        due();
        money();
        longLedger();
        c.end("PromisesTest");
    }

    // ---- boards to begin with

    /** Street 0: 12 metres, class 3; street 1: 8 metres, class 0, way around 0; street 2: 40 metres, class 2. */
    private static Trenchboard board() {
        Trenchboard b = new Trenchboard();
        b.street(12, 3, 100, NONE);
        b.street(8, 0, 301, 0);
        b.street(40, 2, 0, NONE);
        return b;
    }

    private static void passTo(Trenchboard b, int now, int hour) {
        for (int h = now; h < hour; h += 200) {
            b.pass(Math.min(200, hour - h));
        }
    }

    private static int running(Trenchboard b, int promoter, int street, int from, int to, int depth, int day, int days) {
        int w = b.ask(promoter, street, from, to, depth, URGENT, day, days);
        b.start(w);
        return w;
    }

    private static void filled(Trenchboard b, int works, int metre, int density) {
        b.open(works, metre);
        b.fill(works, metre, density);
    }

    // ---- streets, things

    private static void newObject() {
        c.promise("promise 1");
        Trenchboard b = new Trenchboard();
        c.out("queue(0)", () -> b.queue(0));
        c.out("of(0, 0)", () -> b.of(0, 0));
        c.out("lose(0)", () -> b.lose(0) ? 1 : 0);
        for (int i = 0; i <= 5; i++) {
            c.due("money", b.money(i), 0);
            c.due("moneyAnew", b.moneyAnew(i), 0);
        }
        c.due("due", b.due(4), 0);
        c.due("the hour was 0", b.pass(1), 1);
        c.due("objects share nothing", new Trenchboard().pass(2), 2);
    }

    private static void street() {
        c.promise("promise 2");
        Trenchboard b = new Trenchboard();
        c.out("way around is not there", () -> b.street(1, 0, 0, 0));
        c.due("smallest", b.street(1, 0, 0, NONE), 0);
        c.due("largest", b.street(40, 3, 999, 0), 1);
        c.out("itself", () -> b.street(1, 0, 0, 2));
        c.out("below NONE", () -> b.street(1, 0, 0, -2));
        c.out("ahead of a wrong argument", () -> b.street(0, 0, 0, MIN));
        c.wrong("no metres", () -> b.street(0, 0, 0, NONE));
        c.wrong("too many metres", () -> b.street(41, 0, 0, NONE));
        c.wrong("least metres", () -> b.street(MIN, 0, 0, NONE));
        c.wrong("class -1", () -> b.street(1, -1, 0, NONE));
        c.wrong("class 4", () -> b.street(1, 4, 0, NONE));
        c.wrong("flow -1", () -> b.street(1, 0, -1, NONE));
        c.wrong("flow 1000", () -> b.street(1, 0, 1000, NONE));
        for (int i = 2; i < 6; i++) {
            c.due("number", b.street(5, 1, 1, i - 1), i);
        }
        c.state("a seventh one", () -> b.street(1, 0, 0, NONE));
        c.out("a seventh one, no way around", () -> b.street(1, 0, 0, 6));
        c.wrong("a seventh one, wrong", () -> b.street(1, 0, MAX, NONE));
        c.due("metres of it", b.metre(1, 39, 0), 0);
        c.out("no metre 1", () -> b.metre(0, 1, 0));
    }

    private static void surface() {
        c.promise("promise 3");
        Trenchboard b = board();
        c.out("-1", () -> b.surface(-1));
        c.out("3", () -> b.surface(3));
        c.due("day 0", b.surface(0), 99);
        c.due("again", b.surface(0), 99);
        int w = running(b, 0, 0, 11, 11, 50, 0, 60);
        b.open(w, 11);
        c.state("open", () -> b.surface(0));
        c.due("another street", b.surface(1), 99);
        int x = running(b, 0, 1, 0, 1, 50, 0, 60);
        b.open(x, 0);
        c.state("the first metre open", () -> b.surface(1));
        passTo(b, 0, 24);
        b.fill(w, 11, 90);
        c.due("not open any more", b.surface(0), 100);
        c.due("its metres stay sure", b.metre(0, 11, 1), 1);
        // The latest surface counts alone: day 100 is new by the one of day 1.
        int v = b.ask(1, 0, 0, 0, 50, MINOR, 100, 1);
        c.due("day 100", b.bars(v), 2);
        int u = b.ask(1, 0, 0, 0, 50, MINOR, 101, 1);
        c.due("day 101", b.bars(u), 0);
    }

    private static void embargo() {
        c.promise("promise 4");
        Trenchboard b = board();
        int w = b.ask(0, 0, 0, 0, 50, MINOR, 10, 5);
        int v = b.ask(0, 0, 6, 6, 50, MINOR, 10, 5);
        int u = b.ask(0, 2, 6, 6, 50, MINOR, 10, 5);
        b.grant(w, 0);
        b.grant(u, 0);
        c.out("no street", () -> b.embargo(3, 0, 0));
        c.out("ahead of wrong days", () -> b.embargo(-1, 5, 4));
        c.wrong("from -1", () -> b.embargo(0, -1, 4));
        c.wrong("from 1000", () -> b.embargo(0, 1000, 1000));
        c.wrong("to ahead", () -> b.embargo(0, 5, 4));
        c.wrong("to 1000", () -> b.embargo(0, 5, 1000));
        c.due("no embargo so far", b.bars(v), 0);
        c.due("ahead", b.embargo(0, 0, 9), 0);
        c.due("behind", b.embargo(0, 15, 999), 0);
        c.due("in place of the other", b.bars(v), 0);
        c.due("first day", b.embargo(0, 10, 10), 1);
        c.due("last day", b.embargo(0, 14, 14), 1);
        c.due("the last day of all", b.embargo(0, 999, 999), 0);
        c.due("the first day of all", b.embargo(0, 0, 0), 0);
        c.due("around", b.embargo(0, 0, 999), 1);
        c.due("stays", b.of(w, 0), GRANTED);
        c.due("bars one that is asked", b.bars(v), 1);
        b.refuse(w);
        c.due("refused", b.embargo(0, 10, 14), 0);
        Trenchboard r = board();
        running(r, 0, 0, 0, 0, 50, 0, 5);
        c.due("runs", r.embargo(0, 0, 4), 0);
    }

    private static void thing() {
        c.promise("promise 5");
        Trenchboard b = board();
        c.out("owner -1", () -> b.thing(-1, 0, 0, 0, 10));
        c.out("the board", () -> b.thing(5, 0, 0, 0, 10));
        c.out("street 3", () -> b.thing(0, 3, 0, 0, 10));
        c.out("from -1", () -> b.thing(0, 0, -1, 0, 10));
        c.out("to 12", () -> b.thing(0, 0, 0, 12, 10));
        c.out("from 12, depth wrong", () -> b.thing(0, 0, 12, 0, 9));
        c.wrong("to ahead", () -> b.thing(0, 0, 1, 0, 10));
        c.wrong("depth 9", () -> b.thing(0, 0, 0, 0, 9));
        c.wrong("depth 301", () -> b.thing(0, 0, 0, 0, 301));
        b.trial(0, 2);
        b.trial(0, 3);
        b.trial(0, 5);
        c.due("first", b.thing(0, 0, 3, 4, 10), 0);
        c.due("ahead of it stays sure", b.metre(0, 2, 1), 1);
        c.due("where it lies is not", b.metre(0, 3, 1), 0);
        c.due("behind it stays sure", b.metre(0, 5, 1), 1);
        c.due("without a record", b.metre(0, 3, 0), 0);
        for (int i = 1; i < 30; i++) {
            c.due("number", b.thing(i % 5, 0, 0, 11, 300), i);
        }
        c.state("a thirty-first one", () -> b.thing(0, 0, 0, 0, 10));
        c.wrong("a thirty-first one, wrong", () -> b.thing(0, 0, 0, 0, 9));
        c.due("all of them", b.trial(0, 3), 30);
        b.record(29, 0, 0, 0);
        c.due("the highest bit", b.search(0, 0, 0), 1 << 29);
    }

    private static void record() {
        c.promise("promise 6");
        Trenchboard b = board();
        b.thing(0, 0, 5, 6, 50);
        c.out("thing 1", () -> b.record(1, 0, 0, 0));
        c.out("thing -1", () -> b.record(-1, 0, 0, 0));
        c.out("from -1", () -> b.record(0, -1, 0, 0));
        c.out("to 12", () -> b.record(0, 0, 12, 0));
        c.out("to 12, off wrong", () -> b.record(0, 0, 12, 4));
        c.wrong("to ahead", () -> b.record(0, 1, 0, 0));
        c.wrong("off -1", () -> b.record(0, 1, 1, -1));
        c.wrong("off 4", () -> b.record(0, 1, 1, 4));
        c.due("nothing suspect so far", b.search(0, 0, 11), 0);
        c.due("one metre", b.record(0, 4, 4, 0), 1);
        c.due("both sides", b.record(0, 4, 5, 3), 8);
        c.due("ahead", b.metre(0, 0, 0), 0);
        c.due("lowest", b.metre(0, 1, 0), 1);
        c.due("highest", b.metre(0, 8, 0), 1);
        c.due("behind", b.metre(0, 9, 0), 0);
        c.due("cut at the first metre", b.record(0, 1, 1, 3), 5);
        c.due("in place of the other", b.metre(0, 5, 0), 0);
        c.due("cut at the last metre", b.record(0, 10, 11, 2), 4);
        c.due("whole street", b.record(0, 0, 11, 3), 12);
    }

    private static void loseAndSurvey() {
        c.promise("promises 7 and 8");
        Trenchboard b = board();
        b.thing(0, 0, 5, 6, 50);
        c.out("lose(1)", () -> b.lose(1) ? 1 : 0);
        c.out("lose(-1)", () -> b.lose(-1) ? 1 : 0);
        c.due("none", b.lose(0), false);
        b.record(0, 0, 2, 1);
        c.due("one", b.lose(0), true);
        c.due("none any more", b.lose(0), false);
        c.due("nothing suspect", b.search(0, 0, 11), 0);
        c.out("survey(1)", () -> b.survey(1));
        c.out("survey(30)", () -> b.survey(30));
        c.state("no metre sure", () -> b.survey(0));
        b.trial(0, 4);
        b.trial(0, 7);
        b.trial(1, 5);
        c.state("no metre of it sure", () -> b.survey(0));
        b.record(0, 0, 2, 1);
        c.state("none of it, with a record", () -> b.survey(0));
        c.due("nothing has changed", b.metre(0, 3, 0), 1);
        b.trial(0, 6);
        c.due("four were suspect", b.survey(0), 4);
        c.due("the truth", b.search(0, 0, 4), 0);
        c.due("the truth", b.search(0, 7, 11), 0);
        c.due("the truth", b.search(0, 5, 5), 1);
        c.due("again", b.survey(0), 2);
        b.lose(0);
        c.due("without a record", b.survey(0), 0);
        c.due("has one now", b.lose(0), true);
        b.thing(0, 0, 6, 6, 50);
        c.state("something came to lie there", () -> b.survey(0));
    }

    private static void trial() {
        c.promise("promise 9");
        Trenchboard b = board();
        b.thing(0, 0, 5, 6, 50);
        b.thing(0, 0, 6, 7, 300);
        b.thing(0, 1, 6, 7, 300);
        c.out("street 3", () -> b.trial(3, 0));
        c.out("metre 12", () -> b.trial(0, 12));
        c.out("metre -1", () -> b.trial(0, -1));
        c.due("not sure", b.metre(0, 6, 1), 0);
        c.due("two", b.trial(0, 6), 2);
        c.due("sure", b.metre(0, 6, 1), 1);
        c.due("one", b.trial(0, 7), 1);
        c.due("one", b.trial(0, 5), 1);
        c.due("none", b.trial(0, 4), 0);
        c.due("not sure in another street", b.metre(1, 6, 1), 0);
        c.due("no payment", b.money(0), 0);
    }

    // ---- permits

    private static void ask() {
        c.promise("promise 10");
        Trenchboard b = board();
        c.out("promoter 5", () -> b.ask(5, 0, 0, 0, 10, URGENT, 0, 1));
        c.out("promoter -1", () -> b.ask(-1, 0, 0, 0, 10, URGENT, 0, 1));
        c.out("street 3", () -> b.ask(0, 3, 0, 0, 10, URGENT, 0, 1));
        c.out("from -1", () -> b.ask(0, 0, -1, 0, 10, URGENT, 0, 1));
        c.out("to 12", () -> b.ask(0, 0, 0, 12, 10, URGENT, 0, 1));
        c.out("to 12, kind wrong", () -> b.ask(0, 0, 0, 12, 10, 4, 0, 1));
        c.wrong("to ahead", () -> b.ask(0, 0, 1, 0, 10, URGENT, 0, 1));
        c.wrong("depth 9", () -> b.ask(0, 0, 0, 0, 9, URGENT, 0, 1));
        c.wrong("depth 301", () -> b.ask(0, 0, 0, 0, 301, URGENT, 0, 1));
        c.wrong("kind -1", () -> b.ask(0, 0, 0, 0, 10, -1, 0, 1));
        c.wrong("kind 4", () -> b.ask(0, 0, 0, 0, 10, 4, 0, 1));
        c.wrong("day -1", () -> b.ask(0, 0, 0, 0, 10, URGENT, -1, 1));
        c.wrong("day 1000", () -> b.ask(0, 0, 0, 0, 10, URGENT, 1000, 1));
        c.wrong("no days", () -> b.ask(0, 0, 0, 0, 10, URGENT, 0, 0));
        c.wrong("61 days", () -> b.ask(0, 0, 0, 0, 10, URGENT, 0, 61));
        c.due("least", b.ask(0, 0, 0, 0, 10, URGENT, 0, 1), 0);
        c.due("most", b.ask(4, 0, 0, 11, 300, URGENT, 999, 60), 1);
        c.due("last day", b.of(1, 1), 1058);
        c.due("granted at once", b.of(0, 0), GRANTED);
        c.due("without conditions", b.of(0, 2), 0);
        c.due("costs nothing", b.money(0), 0);
        c.due("asked", b.ask(0, 0, 5, 5, 10, MINOR, 3, 2), 2);
        c.due("asked", b.of(2, 0), ASKED);
        c.due("last day", b.of(2, 1), 4);
        for (int i = 3; i < 24; i++) {
            c.due("number", b.ask(0, 0, 0, 0, 10, MAJOR, 20, 1), i);
        }
        c.state("a twenty-fifth", () -> b.ask(0, 0, 0, 0, 10, URGENT, 0, 1));
        c.wrong("a twenty-fifth, wrong", () -> b.ask(0, 0, 0, 0, 10, URGENT, 0, MAX));
        c.due("the last one is there", b.of(23, 1), 20);
        c.out("no other one", () -> b.of(24, 0));
    }

    private static void notices() {
        c.promise("promise 10, notice");
        int[] days = {20, 8, 3, 0};
        for (int grade = 0; grade <= 3; grade++) {
            Trenchboard b = new Trenchboard();
            b.street(5, grade, 0, NONE);
            b.pass(25);
            for (int kind = MAJOR; kind <= URGENT; kind++) {
                int first = 1 + days[kind] * (grade <= 1 ? 2 : 1);
                int k = kind;
                c.wrong("class " + grade + ", kind " + kind + ", a day early", () -> b.ask(0, 0, 0, 0, 10, k, first - 1, 1));
                c.due("class " + grade + ", kind " + kind, b.ask(0, 0, 0, 0, 10, kind, first, 1), kind);
            }
        }
    }

    private static void grant() {
        c.promise("promise 11");
        Trenchboard b = board();
        int w = b.ask(0, 0, 0, 1, 50, MINOR, 5, 3);
        int v = b.ask(1, 0, 3, 4, 50, MINOR, 5, 3);
        c.out("works 2", () -> b.grant(2, 0));
        c.out("ahead of wrong conditions", () -> b.grant(-1, 4));
        c.wrong("conditions -1", () -> b.grant(w, -1));
        c.wrong("conditions 4", () -> b.grant(w, 4));
        c.due("nothing is paid", b.money(0), 0);
        c.due("class 3", b.grant(w, QUIET | COVERED), 20);
        c.due("granted", b.of(w, 0), GRANTED);
        c.due("conditions", b.of(w, 2), 3);
        c.due("version", b.of(w, 3), 0);
        c.due("paid", b.money(0), -20);
        c.due("to the board", b.money(BOARD), 20);
        c.state("granted", () -> b.grant(w, 0));
        c.wrong("granted, wrong", () -> b.grant(w, MAX));
        c.state("barred", () -> b.grant(v, 0));
        c.due("still asked", b.of(v, 0), ASKED);
        c.due("nothing paid", b.money(1), 0);
        b.refuse(v);
        b.refuse(w);
        c.state("refused", () -> b.grant(v, 0));
    }

    private static void costs() {
        c.promise("promise 11, costs");
        int[] base = {60, 40, 20};
        for (int grade = 0; grade <= 3; grade++) {
            Trenchboard b = new Trenchboard();
            b.street(30, grade, 0, NONE);
            int sum = 0;
            for (int kind = MAJOR; kind <= MINOR; kind++) {
                int w = b.ask(3, 0, 10 * kind, 10 * kind, 10, kind, 40, 1);
                c.due("class " + grade + ", kind " + kind, b.grant(w, 0), base[kind] * (4 - grade));
                sum += base[kind] * (4 - grade);
            }
            c.due("paid", b.money(3), -sum);
            c.due("paid", b.moneyAnew(BOARD), sum);
        }
    }

    private static void refuse() {
        c.promise("promise 12");
        Trenchboard b = board();
        int w = b.ask(0, 0, 0, 1, 50, MINOR, 5, 3);
        int v = b.ask(1, 0, 3, 4, 50, URGENT, 0, 3);
        int u = b.ask(1, 2, 3, 4, 50, MINOR, 5, 3);
        int r = running(b, 1, 0, 3, 4, 50, 0, 3);
        c.out("works 4", () -> b.refuse(4));
        c.due("asked", b.refuse(w), ASKED);
        c.due("refused", b.of(w, 0), REFUSED);
        c.due("granted", b.refuse(v), GRANTED);
        c.state("refused", () -> b.refuse(w));
        c.state("runs", () -> b.refuse(r));
        b.stop(r);
        c.state("done", () -> b.refuse(r));
        b.grant(u, 0);
        b.refuse(u);
        c.due("the permit stays paid", b.money(1), -40);
    }

    private static void vary() {
        c.promise("promise 13");
        Trenchboard b = board();
        int w = b.ask(0, 0, 0, 1, 50, MINOR, 5, 3);
        c.out("works 1", () -> b.vary(1, 0));
        c.wrong("conditions 4", () -> b.vary(w, 4));
        c.wrong("conditions -1", () -> b.vary(w, -1));
        c.state("asked", () -> b.vary(w, 0));
        b.grant(w, 1);
        c.due("first", b.vary(w, 2), 1);
        c.due("the same", b.vary(w, 2), 2);
        c.due("conditions", b.of(w, 2), 2);
        c.due("version", b.of(w, 3), 2);
        c.wrong("wrong", () -> b.vary(w, 4));
        b.refuse(w);
        c.state("refused", () -> b.vary(w, 0));
        c.due("as they were", b.of(w, 2), 2);
        int v = running(b, 1, 0, 3, 4, 50, 0, 3);
        c.due("runs", b.vary(v, 3), 1);
        b.stop(v);
        c.state("done", () -> b.vary(v, 0));
    }

    private static void exempt() {
        c.promise("promise 14");
        Trenchboard b = board();
        int w = b.ask(0, 0, 0, 1, 50, MINOR, 5, 3);
        c.out("works 1", () -> b.exempt(1) ? 1 : 0);
        c.out("works -1", () -> b.exempt(-1) ? 1 : 0);
        c.due("not at first", b.of(w, 7), 0);
        b.surface(0);
        c.due("barred", b.bars(w), 2);
        c.due("exempt", b.exempt(w), true);
        c.due("of", b.of(w, 7), 1);
        c.due("not barred", b.bars(w), 0);
        c.due("not any more", b.exempt(w), false);
        c.due("barred again", b.bars(w), 2);
        b.refuse(w);
        c.due("whatever they are", b.exempt(w), true);
    }

    private static void agree() {
        c.promise("promise 15");
        Trenchboard b = board();
        int w = b.ask(0, 0, 0, 1, 50, URGENT, 5, 3);
        int v = b.ask(1, 0, 1, 2, 50, URGENT, 5, 3);
        c.out("works 2", () -> b.agree(w, 2) ? 1 : 0);
        c.out("works 2", () -> b.agree(2, w) ? 1 : 0);
        c.out("none of both, the same", () -> b.agree(-1, -1) ? 1 : 0);
        c.wrong("the same", () -> b.agree(w, w) ? 1 : 0);
        c.due("meet", b.meets(w, 0), v);
        c.due("agree", b.agree(w, v), true);
        c.due("meet no more", b.meets(w, 0), NONE);
        c.due("nor the other", b.meets(v, 0), NONE);
        c.due("the other way round", b.agree(v, w), false);
        c.due("meet again", b.meets(w, 0), v);
        c.due("meet again", b.meets(v, 0), w);
    }

    // ---- digging

    private static void start() {
        c.promise("promise 16");
        Trenchboard b = board();
        int w = b.ask(0, 0, 0, 1, 50, URGENT, 1, 2);
        int v = b.ask(0, 0, 0, 1, 50, MINOR, 3, 1);
        int u = b.ask(0, 0, 0, 1, 50, URGENT, 1, 2);
        c.out("works 3", () -> b.start(3));
        c.state("a day early", () -> b.start(w));
        c.state("asked", () -> b.start(v));
        b.pass(24);
        c.due("first day", b.start(w), 2);
        c.due("runs", b.of(w, 0), RUN);
        c.state("runs", () -> b.start(w));
        b.stop(w);
        c.state("done", () -> b.start(w));
        b.pass(47);
        c.due("still granted", b.of(u, 0), GRANTED);
        Trenchboard l = board();
        int x = l.ask(0, 0, 0, 1, 50, URGENT, 0, 2);
        l.pass(47);
        c.due("last hour of the last day", l.start(x), 1);
        b.pass(1);
        c.state("a day late", () -> b.start(u));
        c.due("granted still", b.of(u, 0), GRANTED);
    }

    private static void open() {
        c.promise("promise 17");
        Trenchboard b = board();
        int w = b.ask(0, 0, 2, 5, 50, URGENT, 0, 9);
        c.out("works 1", () -> b.open(1, 2));
        c.out("metre 1", () -> b.open(w, 1));
        c.out("metre 6", () -> b.open(w, 6));
        c.state("granted", () -> b.open(w, 2));
        b.start(w);
        c.due("nothing struck", b.open(w, 2), 0);
        c.due("sure", b.metre(0, 2, 1), 1);
        c.due("open by", b.metre(0, 2, 2), w);
        c.due("open metres", b.of(w, 5), 1);
        c.state("open", () -> b.open(w, 2));
        int v = running(b, 1, 0, 2, 2, 50, 0, 9);
        c.state("open by another", () -> b.open(v, 2));
        b.plate(w);
        c.state("plates", () -> b.open(w, 3));
        c.out("plates, metre 6", () -> b.open(w, 6));
        b.plate(w);
        b.thing(4, 0, 8, 8, 60);
        b.record(0, 3, 3, 0);
        c.state("suspect and not sure", () -> b.open(w, 3));
        c.due("not sure by that", b.metre(0, 3, 1), 0);
        b.trial(0, 3);
        c.due("suspect and sure", b.open(w, 3), 0);
        b.vary(w, QUIET);
        c.due("quiet, hour 0", b.open(w, 4), 0);
        b.fill(w, 4, 0);
        for (int h = 1; h <= 24; h++) {
            b.pass(1);
            boolean busy = (h >= 7 && h <= 9) || (h >= 16 && h <= 18);
            if (busy) {
                c.state("quiet, hour " + h, () -> b.open(w, 4));
                b.vary(w, COVERED);
                c.due("covered, hour " + h, b.open(w, 4), 0);
                b.vary(w, QUIET | COVERED);
                b.fill(w, 4, 0);
                c.state("both, hour " + h, () -> b.open(w, 4));
                b.vary(w, QUIET);
            } else {
                c.due("quiet, hour " + h, b.open(w, 4), 0);
                b.fill(w, 4, 0);
            }
        }
        b.fill(w, 2, 0);
        c.due("filled ones can be opened by others", b.open(v, 2), 0);
    }

    private static void strikes() {
        c.promise("promise 17, strikes");
        Trenchboard b = board();
        b.thing(1, 0, 2, 3, 50);
        b.thing(2, 0, 3, 3, 51);
        b.thing(0, 0, 3, 4, 10);
        b.thing(1, 1, 3, 4, 10);
        int w = running(b, 0, 0, 2, 5, 50, 0, 9);
        c.due("as deep, and its own", b.open(w, 3), 2);
        c.due("finds", b.of(w, 4), 2);
        c.due("pays", b.money(0), -1000);
        c.due("owner", b.money(1), 1000);
        c.due("deeper", b.money(2), 0);
        c.due("anew", b.moneyAnew(0), -1000);
        c.due("not to the board", b.money(BOARD), 0);
        c.due("one more", b.open(w, 2), 1);
        c.due("finds", b.of(w, 4), 3);
        b.trial(0, 4);
        c.due("sure", b.open(w, 4), 0);
        b.fill(w, 4, 90);
        c.due("still sure", b.open(w, 4), 0);
        b.fill(w, 4, 90);
        b.thing(3, 0, 4, 4, 20);
        c.due("came to lie there", b.open(w, 4), 2);
        c.due("finds", b.of(w, 4), 5);
        b.fill(w, 4, 90);
        c.due("sure again", b.open(w, 4), 0);
        c.due("nothing there", b.open(w, 5), 0);
        c.due("money", b.money(0), -3000);
    }

    private static void fill() {
        c.promise("promise 18");
        Trenchboard b = board();
        int w = running(b, 0, 0, 2, 5, 50, 0, 9);
        int v = running(b, 0, 0, 2, 5, 50, 0, 9);
        b.open(w, 2);
        c.out("works 2", () -> b.fill(2, 2, 0));
        c.out("metre 1", () -> b.fill(w, 1, 0));
        c.out("metre 6", () -> b.fill(w, 6, 101));
        c.wrong("density -1", () -> b.fill(w, 2, -1));
        c.wrong("density 101", () -> b.fill(w, 2, 101));
        c.wrong("not open, wrong", () -> b.fill(w, 3, 101));
        c.state("not open", () -> b.fill(w, 3, 0));
        c.state("open by another", () -> b.fill(v, 2, 0));
        c.due("still open", b.metre(0, 2, 2), w);
        c.due("first fill", b.fill(w, 2, 0), 1);
        c.due("not open", b.metre(0, 2, 2), NONE);
        c.due("no open metres", b.of(w, 5), 0);
        c.state("filled", () -> b.fill(w, 2, 0));
        b.open(v, 2);
        c.due("over another", b.fill(v, 2, 100), 2);
        c.due("fills", b.metre(0, 2, 3), 2);
        c.due("none elsewhere", b.metre(0, 3, 3), 0);
        b.open(w, 3);
        b.plate(w);
        c.due("under plates", b.fill(w, 3, 50), 1);
        c.due("plates still lie", b.of(w, 6), 1);
    }

    private static void plate() {
        c.promise("promise 19");
        Trenchboard b = board();
        int w = b.ask(0, 0, 2, 5, 50, URGENT, 0, 9);
        c.out("works 1", () -> b.plate(1) ? 1 : 0);
        c.state("granted", () -> b.plate(w) ? 1 : 0);
        b.start(w);
        c.due("none at first", b.of(w, 6), 0);
        c.due("lie", b.plate(w), true);
        c.due("lie", b.of(w, 6), 1);
        c.due("taken away", b.plate(w), false);
        c.due("taken away", b.of(w, 6), 0);
        b.plate(w);
        b.stop(w);
        c.due("none when done", b.of(w, 6), 0);
        c.state("done", () -> b.plate(w) ? 1 : 0);
    }

    private static void extend() {
        c.promise("promise 20");
        Trenchboard b = board();
        b.thing(1, 0, 2, 2, 50);
        b.thing(1, 0, 2, 2, 50);
        int w = running(b, 0, 0, 2, 5, 50, 0, 2);
        int g = b.ask(0, 0, 9, 9, 50, URGENT, 9, 2);
        c.out("works 2", () -> b.extend(2));
        c.state("no find", () -> b.extend(w));
        c.state("granted", () -> b.extend(g));
        b.open(w, 2);
        c.due("first", b.extend(w), 3);
        c.due("one more", b.of(w, 4), 1);
        c.due("second", b.extend(w), 5);
        c.due("last day", b.of(w, 1), 5);
        c.due("none more", b.of(w, 4), 0);
        c.state("once for a find", () -> b.extend(w));
        Trenchboard d = board();
        d.thing(1, 0, 2, 2, 50);
        int x = running(d, 0, 0, 2, 5, 50, 0, 2);
        filled(d, x, 2, 9);
        d.stop(x);
        c.state("done", () -> d.extend(x));
        c.due("keeps its find", d.of(x, 4), 1);
    }

    private static void extendMeets() {
        c.promise("promise 20, meeting");
        Trenchboard b = board();
        b.thing(1, 0, 2, 2, 50);
        int w = running(b, 0, 0, 2, 5, 50, 0, 4);
        b.open(w, 2);
        int v = b.ask(1, 0, 6, 6, 50, MINOR, 5, 2);
        c.due("one that is asked", b.extend(w), 5);
        c.due("meets it", b.meets(w, 0), v);
        Trenchboard d = board();
        d.thing(1, 0, 2, 2, 50);
        int x = running(d, 0, 0, 2, 5, 50, 0, 4);
        d.open(x, 2);
        int y = d.ask(1, 0, 6, 6, 50, MINOR, 5, 2);
        d.grant(y, 0);
        c.due("not met so far", d.meets(x, 0), NONE);
        c.state("one that is granted", () -> d.extend(x));
        c.due("as it was", d.of(x, 1), 3);
        c.due("as it was", d.of(x, 4), 1);
        d.agree(x, y);
        c.due("they agree", d.extend(x), 5);
        Trenchboard e = board();
        e.thing(1, 0, 2, 2, 50);
        int p = running(e, 0, 0, 2, 5, 50, 0, 4);
        e.open(p, 2);
        int q = e.ask(1, 0, 6, 6, 50, MINOR, 6, 2);
        e.grant(q, 0);
        c.due("a day ahead of it", e.extend(p), 5);
        Trenchboard first = board();
        first.thing(1, 0, 2, 2, 50);
        first.ask(1, 0, 6, 6, 50, URGENT, 5, 2);
        int second = running(first, 0, 0, 2, 5, 50, 0, 4);
        first.open(second, 2);
        c.state("works 0 are met, too", () -> first.extend(second));
        Trenchboard f = board();
        f.thing(1, 0, 2, 2, 50);
        int late = running(f, 0, 0, 2, 5, 50, 0, 1);
        f.open(late, 2);
        int u = f.ask(1, 0, 6, 6, 50, URGENT, 4, 1);
        passTo(f, 0, 96);
        c.state("late works have the days up to today", () -> f.extend(late));
        f.refuse(u);
        c.due("behind today still", f.extend(late), 2);
    }

    private static void stop() {
        c.promise("promise 21");
        Trenchboard b = board();
        int w = b.ask(0, 0, 2, 5, 50, URGENT, 0, 2);
        c.out("works 1", () -> b.stop(1));
        c.state("granted", () -> b.stop(w));
        b.start(w);
        b.open(w, 2);
        c.state("open metre", () -> b.stop(w));
        b.fill(w, 2, 9);
        c.due("early", b.stop(w), 0);
        c.due("done", b.of(w, 0), DONE);
        c.state("done", () -> b.stop(w));
        for (int late = -1; late <= 3; late++) {
            Trenchboard l = board();
            int v = running(l, 0, 0, 2, 5, 50, 0, 2);
            passTo(l, 0, 24 * (late + 1) + 1);
            c.due("late by " + late, l.stop(v), Math.max(late, 0));
            l.pass(200);
            c.due("no more fines", l.money(0), -500 * Math.max(late, 0));
            c.due("last day as told", l.of(v, 1), 1);
        }
    }

    // ---- hours that go by

    private static void pass() {
        c.promise("promise 22");
        Trenchboard b = board();
        c.wrong("0", () -> b.pass(0));
        c.wrong("-1", () -> b.pass(-1));
        c.wrong("201", () -> b.pass(201));
        c.wrong("most", () -> b.pass(MAX));
        c.due("1", b.pass(1), 1);
        c.due("200", b.pass(200), 201);
        passTo(b, 201, 9801);
        c.state("10000", () -> b.pass(199));
        c.due("nothing has changed", b.pass(198), 9999);
        c.state("above", () -> b.pass(1));
        c.wrong("wrong first", () -> b.pass(201));
    }

    private static void settling() {
        c.promise("promise 22, settling");
        Trenchboard b = board();
        b.pass(30);
        int major = b.ask(0, 0, 0, 0, 50, MAJOR, 30, 2);
        int standard = b.ask(1, 0, 0, 0, 50, STANDARD, 31, 2);
        int minor = b.ask(2, 2, 0, 0, 50, MINOR, 30, 2);
        int barred = b.ask(3, 2, 20, 20, 50, MINOR, 40, 2);
        int refused = b.ask(3, 2, 20, 20, 50, MINOR, 50, 2);
        b.embargo(2, 40, 40);
        b.refuse(refused);
        b.pass(41);
        c.due("day 2", b.of(minor, 0), ASKED);
        b.pass(1);
        c.due("day 3", b.of(minor, 0), GRANTED);
        c.due("conditions", b.of(minor, 2), 0);
        c.due("version", b.of(minor, 3), 0);
        c.due("paid", b.money(2), -40);
        c.due("embargo", b.of(barred, 0), REFUSED);
        c.due("not paid", b.money(3), 0);
        c.due("refused stays", b.of(refused, 0), REFUSED);
        b.pass(71);
        c.due("day 5", b.of(major, 0), ASKED);
        c.due("day 5", b.of(standard, 0), ASKED);
        b.pass(1);
        c.due("day 6", b.of(major, 0), GRANTED);
        c.due("the lowest first", b.of(standard, 0), REFUSED);
        c.due("paid", b.money(0), -60);
        c.due("board", b.money(BOARD), 100);
        b.embargo(2, 0, 999);
        b.pass(200);
        c.due("settled once", b.of(minor, 0), GRANTED);
        c.due("paid once", b.money(0), -60);
    }

    private static void lateFines() {
        c.promise("promise 22, late");
        for (int grade = 0; grade <= 3; grade++) {
            Trenchboard b = new Trenchboard();
            b.street(5, grade, 0, NONE);
            int w = running(b, 0, 0, 0, 0, 50, 0, 2);
            int never = b.ask(1, 0, 2, 2, 50, URGENT, 0, 2);
            passTo(b, 0, 47);
            c.due("on the last day", b.money(0), 0);
            b.pass(1);
            c.due("class " + grade, b.money(0), -500 * (4 - grade));
            b.pass(23);
            c.due("once a day", b.money(0), -500 * (4 - grade));
            b.pass(1);
            c.due("each day", b.money(0), -1000 * (4 - grade));
            c.due("to the board", b.money(BOARD), 1000 * (4 - grade));
            b.stop(w);
            b.pass(48);
            c.due("done", b.moneyAnew(0), -1000 * (4 - grade));
            c.due("never started", b.money(1), 0);
            c.due("granted", b.of(never, 0), GRANTED);
        }
    }

    private static void rents() {
        c.promise("promise 22, rents");
        for (int grade = 0; grade <= 3; grade++) {
            Trenchboard b = new Trenchboard();
            b.street(20, grade, 0, NONE);
            b.street(20, grade, 0, NONE);
            int rent = 50 * (4 - grade);
            int w = running(b, 0, 0, 0, 0, 50, 0, 60);
            int v = running(b, 1, 0, 9, 9, 50, 0, 60);
            int u = running(b, 2, 1, 9, 9, 50, 0, 60);
            b.pass(24);
            c.due("no open metre", b.money(0), 0);
            b.open(w, 0);
            b.open(v, 9);
            b.open(u, 9);
            b.pass(24);
            c.due("six hours", b.money(0), -6 * rent);
            c.due("board", b.money(BOARD), 18 * rent);
            b.agree(w, u);
            b.pass(24);
            c.due("agree, another street", b.money(0), -12 * rent);
            b.agree(w, v);
            b.pass(24);
            c.due("agree", b.money(0), -12 * rent - 6 * (rent / 2));
            c.due("agree", b.money(1), -12 * rent - 6 * (rent / 2));
            c.due("not these", b.money(2), -18 * rent);
            b.plate(v);
            b.pass(24);
            c.due("alone", b.money(0), -18 * rent - 6 * (rent / 2));
            c.due("plates", b.money(1), -12 * rent - 6 * (rent / 2));
            b.vary(u, COVERED);
            b.vary(v, COVERED);
            b.vary(w, QUIET);
            b.pass(24);
            c.due("covered", b.money(2), -30 * rent - 1200);
            c.due("covered with plates", b.money(1), -12 * rent - 6 * (rent / 2));
            c.due("quiet", b.money(0), -24 * rent - 6 * (rent / 2));
            c.due("anew", b.moneyAnew(2), -30 * rent - 1200);
            b.fill(u, 9, 0);
            b.pass(24);
            c.due("filled", b.money(2), -30 * rent - 1200);
        }
    }

    private static void queues() {
        c.promise("promise 32, and 22, queues");
        Trenchboard b = new Trenchboard();
        int[] through = {220, 180, 140, 100};
        for (int grade = 0; grade <= 3; grade++) {
            b.street(5, grade, 300, NONE);
        }
        b.street(5, 1, 175, 0);
        b.street(5, 1, 999, 4);
        c.out("6", () -> b.queue(6));
        c.out("-1", () -> b.queue(-1));
        c.due("none yet", b.queue(0), 0);
        b.pass(2);
        for (int grade = 0; grade <= 3; grade++) {
            c.due("class " + grade, b.queue(grade), 2 * (300 - through[grade]));
        }
        c.due("less comes than gets through", b.queue(4), 0);
        c.due("most", b.queue(5), 2 * (999 - 180));
        int[] works = new int[6];
        for (int s = 0; s < 6; s++) {
            works[s] = running(b, 0, s, 0, 0, 50, 0, 60);
        }
        b.pass(1);
        c.due("not taken", b.queue(0), 3 * 80);
        b.open(works[4], 0);
        b.pass(1);
        c.due("half, rounded down, comes to the way around", b.queue(0), 4 * 80 + 87);
        c.due("the rest waits here", b.queue(4), 0);
        b.open(works[0], 0);
        b.pass(1);
        c.due("taken without a way around", b.queue(0), 4 * 80 + 87 + 300 + 87 - 110);
        b.open(works[5], 0);
        b.pass(1);
        c.due("what came by the way around goes no further", b.queue(4), 88 + 499 - 90);
        c.due("its own half", b.queue(0), 4 * 80 + 87 + 2 * (300 + 87 - 110));
        c.due("half gets through", b.queue(5), 5 * (999 - 180) + 500 - 90);
        for (int s = 1; s <= 3; s++) {
            b.open(works[s], 0);
            int before = b.queue(s);
            b.pass(1);
            c.due("taken", b.queue(s), before + 300 - through[s] / 2);
        }
        int before = b.queue(3);
        b.plate(works[3]);
        b.pass(1);
        c.due("plates", b.queue(3), before + 200);
    }

    // ---- defects, cores

    private static void defect() {
        c.promise("promise 23");
        Trenchboard b = board();
        int w = running(b, 0, 0, 2, 5, 50, 0, 60);
        filled(b, w, 2, 90);
        c.out("street 3", () -> b.defect(3, 0, 0));
        c.out("metre 12", () -> b.defect(0, 12, -1));
        c.wrong("depth -1", () -> b.defect(0, 2, -1));
        c.wrong("depth 301", () -> b.defect(0, 2, 301));
        c.due("nobody", b.defect(0, 3, 20), NONE);
        c.due("nobody pays", b.money(0), 0);
        c.due("too deep", b.defect(0, 2, 51), NONE);
        c.due("deepest", b.defect(0, 2, 300), NONE);
        c.due("cores", b.due(0), 1);
        c.due("liable", b.defect(0, 2, 50), w);
        c.due("pays", b.money(0), -300);
        c.due("to the board", b.money(BOARD), 300);
        c.due("again", b.defect(0, 2, 0), w);
        c.due("pays again", b.moneyAnew(0), -600);
        for (int i = 0; i < 10; i++) {
            filled(b, w, 3, 90);
        }
        c.due("two faults: 15 hundredths of 11", b.due(0), 2);
    }

    private static void core() {
        c.promise("promise 24");
        Trenchboard b = board();
        int w = running(b, 0, 0, 2, 5, 50, 0, 60);
        c.out("street 3", () -> b.core(3, 0));
        c.out("metre 12", () -> b.core(0, 12));
        c.state("no fill", () -> b.core(0, 2));
        filled(b, w, 2, 80);
        c.due("density", b.core(0, 2), 80);
        c.state("once for a fill", () -> b.core(0, 2));
        filled(b, w, 2, 79);
        c.due("another fill", b.core(0, 2), 79);
        c.state("the earlier ones are under it", () -> b.core(0, 2));
        for (int i = 0; i < 19; i++) {
            filled(b, w, 3, 100);
        }
        c.due("one fault: 10 hundredths of 21, less two", b.due(0), 1);
        b.open(w, 3);
        c.due("an open metre keeps its fills", b.core(0, 3), 100);
        c.due("three cores", b.due(0), 0);
        c.due("no payment", b.money(0), 0);
    }

    private static void liability() {
        c.promise("promises 25 and 26");
        Trenchboard b = board();
        int deep = running(b, 0, 0, 0, 5, 120, 0, 60);
        int mid = running(b, 1, 0, 0, 5, 119, 0, 60);
        int flat = running(b, 2, 0, 0, 5, 10, 0, 60);
        c.out("street 3", () -> b.liable(3, 0, 0));
        c.out("metre 12", () -> b.liable(0, 12, 0));
        c.out("metre -1", () -> b.liableAnew(0, -1, 301));
        c.out("street -1", () -> b.liableAnew(-1, 0, 0));
        c.wrong("depth -1", () -> b.liable(0, 0, -1));
        c.wrong("depth 301", () -> b.liable(0, 0, 301));
        c.wrong("depth -1", () -> b.liableAnew(0, 0, -1));
        c.wrong("depth 301", () -> b.liableAnew(0, 0, 301));
        liable(b, 0, 0, NONE);
        liable(b, 0, 300, NONE);
        filled(b, deep, 0, 90);
        filled(b, mid, 1, 90);
        filled(b, deep, 2, 90);
        b.pass(24);
        filled(b, mid, 2, 90);
        filled(b, flat, 2, 90);
        liable(b, 2, 0, flat);
        liable(b, 2, 10, flat);
        liable(b, 2, 11, mid);
        liable(b, 2, 119, mid);
        liable(b, 2, 120, deep);
        liable(b, 2, 121, NONE);
        int deepest = running(b, 0, 0, 6, 6, 300, 1, 60);
        filled(b, deepest, 6, 90);
        liable(b, 6, 300, deepest);
        liable(b, 3, 0, NONE);
        b.surface(1);
        liable(b, 2, 9, flat);
        b.surface(0);
        liable(b, 2, 9, NONE);
        liable(b, 2, 10, flat);
        filled(b, mid, 2, 90);
        liable(b, 2, 9, mid);
        liable(b, 1, 9, NONE);
        c.due("no payment", b.money(1), 0);
        passTo(b, 24, 200 * 24 + 23);
        liable(b, 1, 20, mid);
        b.pass(1);
        // Day 201: the fill of day 0 is out of time, that of day 1 is not.
        liable(b, 1, 20, NONE);
        liable(b, 2, 20, mid);
        liable(b, 0, 20, deep);
        b.pass(24);
        // No works are liable ahead of the latest ones, whatever those ahead would have.
        liable(b, 2, 20, NONE);
        liable(b, 2, 120, deep);
        passTo(b, 202 * 24, 300 * 24 + 23);
        liable(b, 0, 120, deep);
        b.pass(1);
        liable(b, 0, 120, NONE);
    }

    private static void liable(Trenchboard b, int metre, int depth, int want) {
        c.due("liable(0, " + metre + ", " + depth + ")", b.liable(0, metre, depth), want);
        c.due("liableAnew(0, " + metre + ", " + depth + ")", b.liableAnew(0, metre, depth), want);
    }

    // ---- what is asked

    private static void bars() {
        c.promise("promise 27");
        Trenchboard b = board();
        int w = b.ask(0, 0, 2, 5, 50, MINOR, 10, 5);
        c.out("works 1", () -> b.bars(1));
        c.due("nothing", b.bars(w), 0);
        b.grant(w, 0);
        int v = b.ask(0, 0, 2, 5, 50, MINOR, 10, 5);
        c.due("meets one that is asked", b.meets(w, 0), v);
        c.due("is not barred by it", b.bars(w), 0);
        c.due("but bars it", b.bars(v), 3);
        b.refuse(v);
        int u = b.ask(0, 0, 2, 5, 50, URGENT, 10, 5);
        c.due("meets", b.bars(w), 3);
        b.surface(0);
        c.due("new surface first", b.bars(w), 2);
        b.embargo(0, 14, 20);
        c.due("embargo first", b.bars(w), 1);
        c.due("urgent never", b.bars(u), 0);
        b.exempt(w);
        c.due("exempt of surfaces alone", b.bars(w), 1);
        b.embargo(0, 15, 20);
        c.due("exempt", b.bars(w), 3);
        b.agree(w, u);
        c.due("agree", b.bars(w), 0);
        b.exempt(w);
        b.refuse(w);
        c.due("refused works can be barred by a surface", b.bars(w), 2);
        b.exempt(w);
        b.agree(w, u);
        c.due("refused works meet none", b.bars(w), 0);
        b.embargo(0, 10, 10);
        c.due("refused works can be barred by an embargo", b.bars(w), 1);
        lateBars();
    }

    private static void lateBars() {
        Trenchboard b = board();
        int w = b.ask(0, 0, 2, 5, 50, MINOR, 3, 2);
        b.grant(w, 0);
        b.embargo(0, 6, 6);
        int next = b.ask(0, 0, 2, 5, 50, MINOR, 6, 2);
        int asked = b.ask(0, 0, 2, 5, 50, MINOR, 6, 2);
        c.due("asked ones bar none", b.meets(asked, 0), NONE);
        passTo(b, 0, 72);
        b.start(w);
        passTo(b, 72, 143);
        c.due("day 5", b.bars(w), 0);
        c.due("day 5", b.meets(w, 0), NONE);
        c.due("settled: refused by the embargo", b.of(next, 0), REFUSED);
        int urgent = b.ask(0, 0, 2, 5, 50, URGENT, 6, 2);
        c.due("not today", b.meets(w, 0), NONE);
        b.pass(1);
        c.due("day 6: late works have today", b.bars(w), 1);
        c.due("day 6", b.meets(w, 0), urgent);
        b.stop(w);
        c.due("done: days as told", b.bars(w), 0);
        c.due("done: meet none", b.meets(urgent, 0), NONE);
    }

    private static void meets() {
        c.promise("promise 28");
        Trenchboard b = board();
        int w = b.ask(0, 2, 10, 12, 50, URGENT, 10, 5);
        int[][] others = {{4, 5, 10, 5}, {4, 6, 10, 5}, {4, 7, 10, 5}, {15, 20, 10, 5}, {16, 20, 10, 5}, {11, 11, 10, 5},
            {0, 39, 10, 5}, {10, 10, 9, 1}, {10, 10, 9, 2}, {10, 10, 14, 1}, {10, 10, 15, 1}};
        boolean[] meet = {false, false, true, true, false, true, true, false, true, true, false};
        for (int i = 0; i < others.length; i++) {
            int[] o = others[i];
            int v = b.ask(1, 2, o[0], o[1], 50, MINOR, o[2], o[3]);
            c.due("works " + v, b.meets(w, v), meet[i] ? v : NONE);
            c.due("works " + v + ", the other way", b.meets(v, 0), meet[i] ? w : NONE);
            c.due("works " + v + ", asked alone, do not meet asked ones", b.meets(v, 1), NONE);
        }
        c.out("works 12", () -> b.meets(12, 0));
        c.out("works 12", () -> b.meets(12, -1));
        c.wrong("-1", () -> b.meets(w, -1));
        c.due("lowest", b.meets(w, 0), 3);
        c.due("from it", b.meets(w, 3), 3);
        c.due("from behind it", b.meets(w, 4), 4);
        c.due("from behind it", b.meets(w, 5), 6);
        c.due("far", b.meets(w, 24), NONE);
        c.due("farthest", b.meets(w, MAX), NONE);
        b.refuse(3);
        c.due("refused", b.meets(w, 0), 4);
        b.agree(w, 4);
        c.due("agree", b.meets(w, 0), 6);
        waysAround();
    }

    private static void waysAround() {
        Trenchboard b = board();
        b.street(5, 3, 0, 0);
        int w = b.ask(0, 1, 0, 0, 50, URGENT, 1, 1);
        int v = b.ask(0, 0, 11, 11, 50, URGENT, 1, 1);
        int u = b.ask(0, 3, 0, 0, 50, URGENT, 1, 1);
        int t = b.ask(0, 2, 0, 0, 50, URGENT, 1, 1);
        c.due("in its way around", b.meets(w, 0), v);
        c.due("it is the way around", b.meets(v, 0), w);
        c.due("of two", b.meets(v, 1), u);
        c.due("not the two", b.meets(w, 2), NONE);
        c.due("another street", b.meets(t, 0), NONE);
        b.start(b.ask(0, 2, 1, 1, 50, URGENT, 0, 60));
        c.due("runs", b.meets(t, 0), 4);
        c.due("itself is not met", b.meets(4, 4), NONE);
    }

    private static void of() {
        c.promise("promise 29");
        Trenchboard b = board();
        b.thing(1, 0, 3, 3, 20);
        int w = running(b, 0, 0, 2, 5, 50, 0, 9);
        c.out("works 1", () -> b.of(1, 0));
        c.out("works -1", () -> b.of(-1, 8));
        c.wrong("-1", () -> b.of(w, -1));
        c.wrong("8", () -> b.of(w, 8));
        b.open(w, 2);
        b.open(w, 3);
        b.vary(w, COVERED);
        b.vary(w, QUIET);
        b.plate(w);
        b.exempt(w);
        int[] want = {RUN, 8, QUIET, 2, 1, 2, 1, 1};
        for (int what = 0; what < want.length; what++) {
            c.due("of " + what, b.of(w, what), want[what]);
        }
        b.extend(w);
        c.due("extended", b.of(w, 1), 10);
        c.due("finds", b.of(w, 4), 0);
    }

    private static void metre() {
        c.promise("promise 30");
        Trenchboard b = board();
        c.out("street 3", () -> b.metre(3, 0, 0));
        c.out("metre 12", () -> b.metre(0, 12, 0));
        c.out("metre -1", () -> b.metre(0, -1, 4));
        c.wrong("-1", () -> b.metre(0, 0, -1));
        c.wrong("4", () -> b.metre(0, 0, 4));
        int[] fresh = {0, 0, NONE, 0};
        for (int what = 0; what < 4; what++) {
            c.due("fresh " + what, b.metre(0, 2, what), fresh[what]);
        }
        running(b, 0, 0, 9, 9, 50, 0, 9);
        int w = running(b, 0, 0, 2, 5, 50, 0, 9);
        b.thing(1, 0, 9, 9, 20);
        filled(b, w, 2, 9);
        filled(b, w, 2, 9);
        b.open(w, 2);
        b.record(0, 1, 1, 1);
        int[] want = {1, 1, w, 2};
        for (int what = 0; what < 4; what++) {
            c.due("metre " + what, b.metre(0, 2, what), want[what]);
        }
        c.due("another street", b.metre(1, 2, 0), 0);
    }

    private static void search() {
        c.promise("promise 31");
        Trenchboard b = board();
        b.thing(1, 0, 9, 9, 20);
        b.thing(1, 1, 3, 3, 20);
        b.thing(1, 0, 3, 3, 20);
        c.out("street 3", () -> b.search(3, 0, 0));
        c.out("to 12", () -> b.search(0, 0, 12));
        c.out("from -1", () -> b.search(0, -1, 0));
        c.out("from 12, to ahead", () -> b.search(0, 12, 0));
        c.wrong("to ahead", () -> b.search(0, 1, 0));
        c.due("no records", b.search(0, 0, 11), 0);
        b.record(0, 4, 5, 1);
        b.record(1, 4, 5, 1);
        b.record(2, 6, 6, 0);
        c.due("ahead", b.search(0, 0, 2), 0);
        c.due("from", b.search(0, 0, 3), 1);
        c.due("both", b.search(0, 6, 6), 5);
        c.due("both, not the other street", b.search(0, 0, 11), 5);
        c.due("behind", b.search(0, 7, 11), 0);
        c.due("the other street", b.search(1, 0, 7), 2);
    }

    private static void due() {
        c.promise("promise 33");
        Trenchboard b = board();
        c.out("5", () -> b.due(BOARD));
        c.out("-1", () -> b.due(-1));
        int w = running(b, 3, 0, 2, 5, 50, 0, 60);
        int v = running(b, 2, 0, 2, 5, 50, 0, 60);
        c.due("no fills", b.due(3), 0);
        filled(b, w, 2, 90);
        c.due("rounded up", b.due(3), 1);
        c.due("another one", b.due(2), 0);
        for (int i = 1; i < 20; i++) {
            filled(b, w, 2, 90);
        }
        c.due("5 hundredths of 20", b.due(3), 1);
        filled(b, w, 3, 0);
        c.due("5 hundredths of 21", b.due(3), 2);
        b.core(0, 3);
        c.due("10 hundredths of 21, less one", b.due(3), 2);
        for (int faults = 2; faults <= 12; faults++) {
            b.defect(0, 2, 50);
            int hundredths = Math.min(5 + 5 * faults, 50);
            c.due(faults + " faults", b.due(3), (21 * hundredths + 99) / 100 - 1);
        }
        filled(b, v, 4, 80);
        b.core(0, 4);
        c.due("one of one", b.due(2), 0);
        filled(b, v, 4, 80);
        b.core(0, 4);
        c.due("not below 0", b.due(2), 0);
        int u = running(b, 1, 0, 2, 5, 50, 0, 60);
        for (int i = 0; i < 101; i++) {
            filled(b, u, 5, 90);
        }
        c.due("5 hundredths of 101", b.due(1), 6);
    }

    private static void money() {
        c.promise("promises 34 and 35");
        Trenchboard b = board();
        c.out("6", () -> b.money(6));
        c.out("-1", () -> b.money(-1));
        c.out("6", () -> b.moneyAnew(6));
        c.out("-1", () -> b.moneyAnew(MIN));
        b.thing(4, 2, 3, 3, 20);
        b.grant(b.ask(3, 2, 0, 0, 50, MINOR, 3, 2), 0);
        int w = running(b, 1, 2, 2, 9, 50, 0, 1);
        b.open(w, 3);
        b.open(w, 4);
        b.vary(w, COVERED);
        b.pass(24);
        b.fill(w, 3, 90);
        b.defect(2, 3, 20);
        long[] want = {0, -1000 - 6 * (100 + 200) - 1000 - 300, 0, -40, 1000, 40 + 1800 + 1000 + 300};
        for (int who = 0; who <= 5; who++) {
            c.due("money " + who, b.money(who), want[who]);
            c.due("moneyAnew " + who, b.moneyAnew(who), want[who]);
        }
    }

    /** The longest run of payments: all works take their streets from the first hour to the last one. */
    private static void longLedger() {
        c.promise("promise 35, at its longest");
        Trenchboard b = new Trenchboard();
        b.street(40, 0, 999, NONE);
        for (int i = 0; i < 30; i++) {
            b.thing(i % 5, 0, 0, 39, 10);
        }
        for (int i = 0; i < 24; i++) {
            int w = running(b, i % 5, 0, i, i, 10, 0, 1);
            b.open(w, i);
            b.vary(w, COVERED);
        }
        passTo(b, 0, 9999);
        long busy = 416 * 6 + 3;
        long each = busy * (200 + 200) + 416L * 2000;
        for (int who = 0; who < 5; who++) {
            long works = who < 4 ? 5 : 4;
            long paid = works * (each + 30 * 1000) - 24L * 6 * 1000;
            c.due("money " + who, b.money(who), -paid);
            c.due("moneyAnew " + who, b.moneyAnew(who), -paid);
        }
        c.due("board", b.money(BOARD), 24 * each);
        c.due("board, anew", b.moneyAnew(BOARD), 24 * each);
        c.due("queue", b.queue(0), 9999L * (999 - 110));
    }
}
