import java.util.ArrayList;
import java.util.HashMap;
import java.util.List;
import java.util.Map;

/**
 * Each call that is refused, for each of its reasons: it throws what the document says, if several reasons apply what is
 * named first, and nothing is changed by it. And what is asked for changes nothing, either.
 */
public final class RefusedTest {
    /** The day of each set-up but LATE, and how many works there are. */
    static final int TODAY = 1, WORKS = 12;

    private static final String[] BOARD = {
        "street 8 3 150 -1", "street 6 0 301 0", "street 5 2 90 -1",
        // Thing 0 is drawn a metre off, 1 is not drawn, 2 is drawn where it is not.
        "thing 1 0 2 4 60", "record 0 3 5 1", "thing 2 0 1 1 40", "thing 3 1 2 3 200", "record 2 0 1 0",
        "surface 0", "embargo 2 30 30", "pass 30",
        // Works 0 run, metre 1 is open, with a find; metre 6 has a fill.
        "ask 0 0 1 6 80 3 1 2", "start 0", "trial 0 6", "open 0 6", "fill 0 6 90", "open 0 1",
        // Works 1 are done, with a core and a fault.
        "ask 1 0 7 7 120 3 1 5", "start 1", "open 1 7", "fill 1 7 70", "stop 1", "core 0 7", "defect 0 7 60",
        // Works 2 are granted, from day 3 on, and would be met if works 0 were extended.
        "ask 2 0 5 7 50 3 3 2",
        // Works 3 are asked, 4 refused.
        "ask 3 1 0 5 50 1 17 5", "ask 4 1 0 5 50 1 17 5", "refuse 4",
        // Works 5 run, are quiet, and have metre 0 open; 6 run, and have metre 3 open under plates; 7 run.
        "ask 1 2 0 3 60 3 1 3", "start 5", "vary 5 1", "open 5 0",
        "ask 2 2 0 3 60 3 1 3", "start 6", "open 6 3", "plate 6", "agree 5 6",
        "ask 3 2 0 3 60 3 1 3", "start 7",
        // Works 8, 9 and 10 are barred, by an embargo, a new surface, and works 2; 11 are not.
        "ask 0 2 0 1 50 0 30 3", "ask 1 0 0 0 50 2 40 2", "ask 2 0 6 6 50 2 4 1", "exempt 10",
        "ask 3 0 0 0 50 2 60 2", "exempt 11",
        // Hour 31 is busy.
        "pass 1",
    };
    private static final String[] STREETS_FULL = with(BOARD, 3, "street 5 1 10 0");
    private static final String[] THINGS_FULL = with(BOARD, 27, "thing 4 1 5 5 300");
    private static final String[] WORKS_FULL = with(BOARD, 12, "ask 4 2 4 4 50 3 900 1");
    private static final String[] LATE = with(with(BOARD, 49, "pass 200"), 1, "pass 69");
    private static final String[] EMPTY = {};

    private static final int MIN = Integer.MIN_VALUE, MAX = Integer.MAX_VALUE;
    private static final int[] NO_STREET = {-1, 3, 6, MIN, MAX};
    private static final int[] NO_THING = {-1, 3, 30, MIN, MAX};
    private static final int[] NO_WORKS = {-1, WORKS, 24, MIN, MAX};
    private static final int[] NO_PROMOTER = {-1, 5, MIN, MAX};
    /** Metres that street 0 has not. */
    private static final int[] NO_METRE = {-1, 8, 39, 40, MIN, MAX};
    private static final int[] NO_DEPTH_OF_WORKS = {9, 301, 0, -10, MIN, MAX};
    private static final int[] NO_DEPTH = {-1, 301, MIN, MAX};
    private static final int[] NO_CONDITIONS = {-1, 4, MIN, MAX};

    private static final Check c = new Check();
    private static final List<List<String>> WAYS = Probe.ways();
    private static final Map<String[], String[]> WITHOUT = new HashMap<>();
    private static int refused;

    public static void main(String[] args) {
        setUps();
        street();
        surface();
        embargo();
        thing();
        record();
        loseAndSurvey();
        trial();
        ask();
        grant();
        refuse();
        vary();
        exempt();
        agree();
        start();
        open();
        fill();
        plate();
        extend();
        stop();
        pass();
        defect();
        core();
        liable();
        barsAndMeets();
        ofAndMetre();
        search();
        queueDueAndMoney();
        emptyBoard();
        askedFor();
        c.end("RefusedTest, " + refused + " refused calls");
    }

    private static String[] with(String[] lines, int times, String more) {
        String[] all = java.util.Arrays.copyOf(lines, lines.length + times);
        java.util.Arrays.fill(all, lines.length, all.length, more);
        return all;
    }

    // ---- how a refused call is looked at

    private static void out(String[] setUp, String line) {
        throwsAndChangesNothing(setUp, line, Calls.OUT);
    }

    private static void wrong(String[] setUp, String line) {
        throwsAndChangesNothing(setUp, line, Calls.WRONG);
    }

    private static void state(String[] setUp, String line) {
        throwsAndChangesNothing(setUp, line, Calls.STATE);
    }

    /** Calls it with each of the values in place of the sign #. */
    private static void eachOut(String[] setUp, String line, int... values) {
        for (int value : values) {
            out(setUp, line.replace("#", "" + value));
        }
    }

    private static void eachWrong(String[] setUp, String line, int... values) {
        for (int value : values) {
            wrong(setUp, line.replace("#", "" + value));
        }
    }

    private static void eachState(String[] setUp, String line, int... values) {
        for (int value : values) {
            state(setUp, line.replace("#", "" + value));
        }
    }

    private static void throwsAndChangesNothing(String[] setUp, String line, long want) {
        refused++;
        long got = Calls.of(setUp).call(line);
        if (got != want) {
            c.say(line + " answered " + Calls.name(got) + ", due is " + Calls.name(want));
        }
        changesNothing(setUp, line);
    }

    private static void changesNothing(String[] setUp, String line) {
        String[] without = WITHOUT.computeIfAbsent(setUp, RefusedTest::answersWithout);
        for (int i = 0; i < without.length; i++) {
            Calls board = Calls.of(setUp);
            board.call(line);
            String with = Probe.answers(board, WAYS.get(i));
            if (!with.equals(without[i])) {
                c.say(line + " changed something: " + firstChange(with, without[i]));
                return;
            }
        }
    }

    private static String[] answersWithout(String[] setUp) {
        String[] all = new String[WAYS.size()];
        for (int i = 0; i < all.length; i++) {
            all[i] = Probe.answers(Calls.of(setUp), WAYS.get(i));
        }
        return all;
    }

    private static String firstChange(String with, String without) {
        String[] a = with.split("\n");
        String[] b = without.split("\n");
        int i = 0;
        while (i < a.length - 1 && a[i].equals(b[i])) {
            i++;
        }
        return a[i] + " behind it, " + b[i] + " without it";
    }

    /** The set-ups are what their remarks say: else a call could be refused for another reason. */
    private static void setUps() {
        c.promise("the set-up");
        Calls b = Calls.of(BOARD);
        int[] states = {3, 4, 1, 0, 2, 3, 3, 3, 0, 0, 0, 0};
        int[] bars = {0, 2, 0, 0, 0, 0, 0, 0, 1, 2, 3, 0};
        for (int w = 0; w < WORKS; w++) {
            c.due("of " + w + " 0", b.call("of " + w + " 0"), states[w]);
            if (w != 1) {
                c.due("bars " + w, b.call("bars " + w), bars[w]);
            }
        }
        c.due("a find", b.call("of 0 4"), 1);
        c.due("quiet", b.call("of 5 2"), 1);
        c.due("plates", b.call("of 6 6"), 1);
        c.due("open", b.call("metre 0 1 2"), 0);
        c.due("open", b.call("metre 2 0 2"), 5);
        c.due("suspect", b.call("metre 0 3 0"), 1);
        c.due("not sure", b.call("metre 0 3 1"), 0);
        c.due("the hour", b.call("pass 1"), 32);
        c.due("the hour", Calls.of(LATE).call("pass 99"), 9999);
    }

    // ---- streets, things

    private static void street() {
        c.promise("promise 2, refused");
        eachOut(BOARD, "street 5 0 0 #", -2, 3, 6, MIN, MAX);
        eachWrong(BOARD, "street # 0 0 -1", 0, 41, -1, MIN, MAX);
        eachWrong(BOARD, "street 5 # 0 -1", -1, 4, MIN, MAX);
        eachWrong(BOARD, "street 5 0 # -1", -1, 1000, MIN, MAX);
        eachState(STREETS_FULL, "street 5 0 0 #", -1, 0, 5);
        c.promise("promise 2, in the order of its clause");
        out(BOARD, "street 0 0 0 3");
        out(BOARD, "street 5 4 0 -2");
        out(BOARD, "street 5 0 -1 3");
        out(STREETS_FULL, "street 5 0 0 6");
        out(STREETS_FULL, "street 41 0 0 6");
        wrong(STREETS_FULL, "street 0 0 0 -1");
        wrong(STREETS_FULL, "street 5 -1 0 -1");
        wrong(STREETS_FULL, "street 5 0 1000 -1");
    }

    private static void surface() {
        c.promise("promise 3, refused");
        eachOut(BOARD, "surface #", NO_STREET);
        eachState(BOARD, "surface #", 0, 2);
    }

    private static void embargo() {
        c.promise("promise 4, refused");
        eachOut(BOARD, "embargo # 0 999", NO_STREET);
        // Street 1 has no embargo, and that of street 2 bars works 8.
        for (int street = 1; street <= 2; street++) {
            eachWrong(BOARD, "embargo " + street + " # 999", -1, 1000, MIN, MAX);
            eachWrong(BOARD, "embargo " + street + " 5 #", 4, 1000, -1, MIN, MAX);
            wrong(BOARD, "embargo " + street + " 999 998");
            wrong(BOARD, "embargo " + street + " 1000 1000");
            wrong(BOARD, "embargo " + street + " -1 -1");
        }
        c.promise("promise 4, in the order of its clause");
        out(BOARD, "embargo 3 5 4");
        out(BOARD, "embargo -1 -1 1000");
    }

    private static void thing() {
        c.promise("promise 5, refused");
        eachOut(BOARD, "thing # 0 0 7 50", NO_PROMOTER);
        eachOut(BOARD, "thing 0 # 0 0 50", NO_STREET);
        eachOut(BOARD, "thing 0 0 # 7 50", NO_METRE);
        eachOut(BOARD, "thing 0 0 0 # 50", NO_METRE);
        eachWrong(BOARD, "thing 0 0 # 6 50", 7);
        eachWrong(BOARD, "thing 0 0 1 6 #", NO_DEPTH_OF_WORKS);
        state(THINGS_FULL, "thing 0 0 1 6 50");
        c.promise("promise 5, in the order of its clause");
        out(BOARD, "thing 5 0 7 6 50");
        out(BOARD, "thing 0 3 0 0 9");
        out(BOARD, "thing 0 0 8 7 50");
        out(BOARD, "thing 0 0 0 8 301");
        out(THINGS_FULL, "thing -1 0 1 6 50");
        out(THINGS_FULL, "thing 0 0 1 8 50");
        out(THINGS_FULL, "thing 0 3 1 6 9");
        wrong(THINGS_FULL, "thing 0 0 6 1 50");
        wrong(THINGS_FULL, "thing 0 0 1 6 301");
    }

    private static void record() {
        c.promise("promise 6, refused");
        eachOut(BOARD, "record # 0 0 0", NO_THING);
        eachOut(BOARD, "record 0 # 7 0", NO_METRE);
        eachOut(BOARD, "record 0 0 # 0", NO_METRE);
        // Metre 7 is one of street 0, but none of street 1.
        out(BOARD, "record 2 0 7 0");
        wrong(BOARD, "record 0 1 0 0");
        wrong(BOARD, "record 0 7 6 0");
        eachWrong(BOARD, "record 0 0 0 #", -1, 4, MIN, MAX);
        c.promise("promise 6, in the order of its clause");
        out(BOARD, "record 3 1 0 0");
        out(BOARD, "record -1 0 0 4");
        out(BOARD, "record 0 8 0 0");
        out(BOARD, "record 0 0 8 -1");
    }

    private static void loseAndSurvey() {
        c.promise("promise 7, refused");
        eachOut(BOARD, "lose #", NO_THING);
        c.promise("promise 8, refused");
        eachOut(BOARD, "survey #", NO_THING);
        eachState(BOARD, "survey #", 0, 2);
    }

    private static void trial() {
        c.promise("promise 9, refused");
        eachOut(BOARD, "trial # 0", NO_STREET);
        eachOut(BOARD, "trial 0 #", NO_METRE);
        out(BOARD, "trial 1 6");
        out(BOARD, "trial 2 5");
    }

    // ---- permits

    private static void ask() {
        c.promise("promise 10, refused");
        eachOut(BOARD, "ask # 0 0 7 50 3 1 1", NO_PROMOTER);
        eachOut(BOARD, "ask 0 # 0 0 50 3 1 1", NO_STREET);
        eachOut(BOARD, "ask 0 0 # 7 50 3 1 1", NO_METRE);
        eachOut(BOARD, "ask 0 0 0 # 50 3 1 1", NO_METRE);
        wrong(BOARD, "ask 0 0 1 0 50 3 1 1");
        wrong(BOARD, "ask 0 0 7 6 50 3 1 1");
        eachWrong(BOARD, "ask 0 0 0 0 # 3 1 1", NO_DEPTH_OF_WORKS);
        eachWrong(BOARD, "ask 0 0 0 0 50 # 900 1", -1, 4, MIN, MAX);
        eachWrong(BOARD, "ask 0 0 0 0 50 3 # 1", 0, 1000, -1, MIN, MAX);
        eachWrong(BOARD, "ask 0 0 0 0 50 3 1 #", 0, 61, -1, MIN, MAX);
        wrong(BOARD, "ask 0 0 0 0 50 2 3 1");
        wrong(BOARD, "ask 0 1 0 0 50 2 6 1");
        wrong(BOARD, "ask 0 0 0 0 50 0 1000 1");
        state(WORKS_FULL, "ask 0 0 0 0 50 3 1 1");
        c.promise("promise 10, in the order of its clause");
        out(BOARD, "ask 5 0 7 6 50 3 1 1");
        out(BOARD, "ask 0 3 0 0 9 3 1 1");
        out(BOARD, "ask 0 0 8 7 50 3 1 1");
        out(BOARD, "ask 0 0 0 8 50 4 1 1");
        out(BOARD, "ask -1 0 0 0 50 3 0 1");
        out(BOARD, "ask 0 -1 0 0 50 3 1 61");
        out(WORKS_FULL, "ask 5 0 0 0 50 3 1 1");
        out(WORKS_FULL, "ask 0 3 0 0 50 3 1 1");
        out(WORKS_FULL, "ask 0 0 0 8 50 3 1 0");
        wrong(WORKS_FULL, "ask 0 0 7 6 50 3 1 1");
        wrong(WORKS_FULL, "ask 0 0 0 0 301 3 1 1");
        wrong(WORKS_FULL, "ask 0 0 0 0 50 4 1 1");
        wrong(WORKS_FULL, "ask 0 0 0 0 50 3 0 1");
        wrong(WORKS_FULL, "ask 0 0 0 0 50 3 1 61");
    }

    private static void grant() {
        c.promise("promise 11, refused");
        eachOut(BOARD, "grant # 0", NO_WORKS);
        eachWrong(BOARD, "grant 11 #", NO_CONDITIONS);
        // Done, granted, refused, run; then barred by an embargo, a surface, works.
        eachState(BOARD, "grant # 3", 0, 1, 2, 4, 5);
        eachState(BOARD, "grant # 3", 8, 9, 10);
        c.promise("promise 11, in the order of its clause");
        eachOut(BOARD, "grant # 4", NO_WORKS);
        eachWrong(BOARD, "grant # 4", 0, 1, 2, 4, 8, 9, 10);
        eachWrong(BOARD, "grant # -1", 2, 10);
    }

    private static void refuse() {
        c.promise("promise 12, refused");
        eachOut(BOARD, "refuse #", NO_WORKS);
        eachState(BOARD, "refuse #", 0, 1, 4, 7);
    }

    private static void vary() {
        c.promise("promise 13, refused");
        eachOut(BOARD, "vary # 0", NO_WORKS);
        eachWrong(BOARD, "vary 0 #", NO_CONDITIONS);
        eachWrong(BOARD, "vary 2 #", NO_CONDITIONS);
        eachState(BOARD, "vary # 2", 1, 3, 4);
        c.promise("promise 13, in the order of its clause");
        eachOut(BOARD, "vary # -1", NO_WORKS);
        eachWrong(BOARD, "vary # 4", 1, 3, 4);
        eachWrong(BOARD, "vary # -1", 1, 3, 4);
    }

    private static void exempt() {
        c.promise("promise 14, refused");
        eachOut(BOARD, "exempt #", NO_WORKS);
    }

    private static void agree() {
        c.promise("promise 15, refused");
        eachOut(BOARD, "agree # 0", NO_WORKS);
        eachOut(BOARD, "agree 0 #", NO_WORKS);
        out(BOARD, "agree -1 12");
        eachWrong(BOARD, "agree # #", 0, 5, 11);
        c.promise("promise 15, in the order of its clause");
        eachOut(BOARD, "agree # #", NO_WORKS);
    }

    // ---- digging

    private static void start() {
        c.promise("promise 16, refused");
        eachOut(BOARD, "start #", NO_WORKS);
        // Run, done, asked, refused; 2 are granted, but today is none of their days.
        eachState(BOARD, "start #", 0, 1, 3, 4);
        state(BOARD, "start 2");
    }

    private static void open() {
        c.promise("promise 17, refused");
        eachOut(BOARD, "open # 1", NO_WORKS);
        // Metres 0 and 7 are of the street, but none of theirs.
        eachOut(BOARD, "open 0 #", 0, 7, -1, 8, 40, MIN, MAX);
        out(BOARD, "open 1 6");
        state(BOARD, "open 1 7");
        state(BOARD, "open 2 5");
        state(BOARD, "open 3 5");
        state(BOARD, "open 4 5");
        state(BOARD, "open 5 1");
        state(BOARD, "open 6 1");
        state(BOARD, "open 0 1");
        state(BOARD, "open 7 0");
        eachState(BOARD, "open 0 #", 2, 3, 4, 5);
        c.promise("promise 17, in the order of its clause");
        eachOut(BOARD, "open # 0", 1, 2);
        out(BOARD, "open 5 4");
        out(BOARD, "open 6 4");
    }

    private static void fill() {
        c.promise("promise 18, refused");
        eachOut(BOARD, "fill # 1 90", NO_WORKS);
        eachOut(BOARD, "fill 0 # 90", 0, 7, -1, 8, 40, MIN, MAX);
        eachWrong(BOARD, "fill 0 1 #", -1, 101, MIN, MAX);
        // Not open, not open any more, open by others, not run.
        state(BOARD, "fill 0 2 90");
        state(BOARD, "fill 0 6 90");
        state(BOARD, "fill 7 0 90");
        state(BOARD, "fill 1 7 90");
        state(BOARD, "fill 2 5 90");
        c.promise("promise 18, in the order of its clause");
        out(BOARD, "fill 12 1 101");
        out(BOARD, "fill 0 7 101");
        out(BOARD, "fill 1 6 90");
        eachWrong(BOARD, "fill 0 2 #", -1, 101);
        wrong(BOARD, "fill 7 0 101");
        wrong(BOARD, "fill 1 7 -1");
    }

    private static void plate() {
        c.promise("promise 19, refused");
        eachOut(BOARD, "plate #", NO_WORKS);
        eachState(BOARD, "plate #", 1, 2, 3, 4);
    }

    private static void extend() {
        c.promise("promise 20, refused");
        eachOut(BOARD, "extend #", NO_WORKS);
        // Not run; no find; would meet works 2.
        eachState(BOARD, "extend #", 1, 2, 3, 4);
        eachState(BOARD, "extend #", 5, 6, 7);
        state(BOARD, "extend 0");
    }

    private static void stop() {
        c.promise("promise 21, refused");
        eachOut(BOARD, "stop #", NO_WORKS);
        eachState(BOARD, "stop #", 1, 2, 3, 4);
        eachState(BOARD, "stop #", 0, 5, 6);
    }

    private static void pass() {
        c.promise("promise 22, refused");
        eachWrong(BOARD, "pass #", 0, 201, -1, MIN, MAX);
        eachState(LATE, "pass #", 100, 200);
        c.promise("promise 22, in the order of its clause");
        eachWrong(LATE, "pass #", 0, 201, MIN, MAX);
    }

    // ---- defects, cores

    private static void defect() {
        c.promise("promise 23, refused");
        eachOut(BOARD, "defect # 0 5", NO_STREET);
        eachOut(BOARD, "defect 0 # 5", NO_METRE);
        eachWrong(BOARD, "defect 0 7 #", NO_DEPTH);
        c.promise("promise 23, in the order of its clause");
        eachOut(BOARD, "defect 3 7 #", NO_DEPTH);
        eachOut(BOARD, "defect 0 8 #", NO_DEPTH);
    }

    private static void core() {
        c.promise("promise 24, refused");
        eachOut(BOARD, "core # 0", NO_STREET);
        eachOut(BOARD, "core 0 #", NO_METRE);
        // No fill; open and no fill; cored.
        eachState(BOARD, "core 0 #", 0, 1, 7);
    }

    // ---- what is asked

    private static void liable() {
        for (String call : new String[] {"liable", "liableAnew"}) {
            c.promise(call.equals("liable") ? "promise 25, refused" : "promise 26, refused");
            eachOut(BOARD, call + " # 0 5", NO_STREET);
            eachOut(BOARD, call + " 0 # 5", NO_METRE);
            eachWrong(BOARD, call + " 0 7 #", NO_DEPTH);
            eachOut(BOARD, call + " 3 7 #", NO_DEPTH);
            eachOut(BOARD, call + " 0 8 #", NO_DEPTH);
        }
    }

    private static void barsAndMeets() {
        c.promise("promise 27, refused");
        eachOut(BOARD, "bars #", NO_WORKS);
        c.promise("promise 28, refused");
        eachOut(BOARD, "meets # 0", NO_WORKS);
        eachWrong(BOARD, "meets 0 #", -1, MIN);
        eachOut(BOARD, "meets # -1", NO_WORKS);
    }

    private static void ofAndMetre() {
        c.promise("promise 29, refused");
        eachOut(BOARD, "of # 0", NO_WORKS);
        eachWrong(BOARD, "of 0 #", -1, 8, MIN, MAX);
        eachOut(BOARD, "of # 8", NO_WORKS);
        c.promise("promise 30, refused");
        eachOut(BOARD, "metre # 0 0", NO_STREET);
        eachOut(BOARD, "metre 0 # 0", NO_METRE);
        eachWrong(BOARD, "metre 0 0 #", -1, 4, MIN, MAX);
        eachOut(BOARD, "metre # 0 4", NO_STREET);
        eachOut(BOARD, "metre 0 # -1", NO_METRE);
    }

    private static void search() {
        c.promise("promise 31, refused");
        eachOut(BOARD, "search # 0 0", NO_STREET);
        eachOut(BOARD, "search 0 # 7", NO_METRE);
        eachOut(BOARD, "search 0 0 #", NO_METRE);
        wrong(BOARD, "search 0 1 0");
        wrong(BOARD, "search 0 7 6");
        out(BOARD, "search 3 1 0");
        out(BOARD, "search 0 8 7");
        out(BOARD, "search 0 0 -1");
    }

    private static void queueDueAndMoney() {
        c.promise("promise 32, refused");
        eachOut(BOARD, "queue #", NO_STREET);
        c.promise("promise 33, refused");
        eachOut(BOARD, "due #", NO_PROMOTER);
        c.promise("promise 34, refused");
        eachOut(BOARD, "money #", -1, 6, MIN, MAX);
        c.promise("promise 35, refused");
        eachOut(BOARD, "moneyAnew #", -1, 6, MIN, MAX);
    }

    /** A new object has no streets, things or works, whatever else is wrong. */
    private static void emptyBoard() {
        c.promise("promise 1, refused");
        String[] calls = {
            "street 5 0 0 0", "surface 0", "embargo 0 0 0", "thing 0 0 0 0 10", "record 0 0 0 0", "lose 0", "survey 0",
            "trial 0 0", "ask 0 0 0 0 10 3 0 1", "grant 0 0", "refuse 0", "vary 0 0", "exempt 0", "agree 0 1", "start 0",
            "open 0 0", "fill 0 0 0", "plate 0", "extend 0", "stop 0", "defect 0 0 0", "core 0 0", "liable 0 0 0",
            "liableAnew 0 0 0", "bars 0", "meets 0 0", "of 0 0", "metre 0 0 0", "search 0 0 0", "queue 0",
        };
        for (String line : calls) {
            out(EMPTY, line);
        }
    }

    private static void askedFor() {
        c.promise("Terms: what is asked for changes nothing");
        String[] calls = {
            "liable 0 7 60", "liableAnew 0 7 60", "liable 0 6 5", "bars 8", "bars 10", "meets 2 0", "meets 1 0", "of 0 4",
            "metre 0 1 2", "metre 0 3 0", "search 0 0 7", "queue 0", "queue 1", "due 1", "due 4", "money 0", "money 5",
            "moneyAnew 0", "moneyAnew 5",
        };
        for (String line : calls) {
            c.due(line + " is answered", Calls.of(BOARD).call(line) > Calls.OUT, true);
            changesNothing(BOARD, line);
        }
    }
}
