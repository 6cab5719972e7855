/** The bounds that the document's sentences name, a test each: works, permits, what bars works, and which ones meet. */
public final class PermitsBoundsTest {
    private static final Check c = new Check();

    public static void main(String[] args) {
        numbers();
        places();
        daysThatAreAsked();
        notices();
        noticesBehindToday();
        kinds();
        urgentOnes();
        grants();
        costs();
        refusals();
        settlingDays();
        settledOnes();
        settledByWhatBars();
        settledLowestFirst();
        conditions();
        startDays();
        embargoDays();
        embargoesReturn();
        firstOfWhatBars();
        urgentOnesAreNotBarred();
        barredByThoseAlone();
        barredWhateverTheyAre();
        meetingStates();
        daysInCommon();
        metresBetween();
        waysAround();
        agreements();
        lowestFromOneOn();
        lateOnes();
        exemptions();
        whatIsToldOfWorks();
        c.end("PermitsBoundsTest");
    }

    private static void sentence(String promise, String sentence, String text) {
        Script.sentence(c, promise, sentence, text);
    }

    // ---- works

    private static void numbers() {
        sentence("promise 10", "Works are numbered from 0, at most 24", """
            street 5 3 0 -1
            of 0 0 = Index
            ask 0 0 0 0 50 3 0 1 = 0
            21 x ask 0 0 0 0 50 3 0 1
            ask 0 0 0 0 50 3 0 1 = 22
            of 23 0 = Index
            ask 0 0 0 0 50 2 3 1 = 23
            of 23 0 = 0
            ask 0 0 0 0 50 3 0 1 = State
            of 24 0 = Index
            refuse 23
            ask 0 0 0 0 50 3 0 1 = State
            """);
    }

    private static void places() {
        sentence("promise 10", "there is no such promoter, street or metre; to is ahead of from", """
            street 9 3 0 -1
            ask 0 -1 0 0 50 3 0 1 = Index
            ask 0 1 0 0 50 3 0 1 = Index
            ask 0 0 -1 8 50 3 0 1 = Index
            ask 0 0 0 9 50 3 0 1 = Index
            ask 0 0 9 9 50 3 0 1 = Index
            ask 0 0 0 8 50 3 0 1 = 0
            ask 0 0 8 8 50 3 0 1 = 1
            ask 0 0 5 4 50 3 0 1 = Argument
            ask 0 0 4 4 50 3 0 1 = 2
            ask 0 0 4 5 50 3 0 1 = 3
            """);
        sentence("promise 10", "depth: 10 to 300", """
            street 9 3 0 -1
            ask 0 0 0 0 9 3 0 1 = Argument
            ask 0 0 0 0 10 3 0 1 = 0
            ask 0 0 0 0 300 3 0 1 = 1
            ask 0 0 0 0 301 3 0 1 = Argument
            """);
    }

    private static void daysThatAreAsked() {
        sentence("promises 10 and 29", "days: 1 to 60", """
            street 9 3 0 -1
            ask 0 0 0 0 50 3 7 0 = Argument
            ask 0 0 0 0 50 3 7 1 = 0
            ask 0 0 0 0 50 3 7 2 = 1
            ask 0 0 0 0 50 3 7 60 = 2
            ask 0 0 0 0 50 3 7 61 = Argument
            of 0 1 = 7
            of 1 1 = 8
            of 2 1 = 66
            """);
        sentence("promise 10", "day: the first day: today and the notice, together, to 999", """
            street 9 3 0 -1
            ask 0 0 0 0 50 3 998 1 = 0
            ask 0 0 0 0 50 3 999 60 = 1
            ask 0 0 0 0 50 3 1000 1 = Argument
            ask 0 0 0 0 50 0 999 1 = 2
            ask 0 0 0 0 50 0 1000 1 = Argument
            of 0 1 = 998
            of 1 1 = 1058
            of 2 1 = 999
            """);
    }

    private static void notices() {
        c.promise("promise 10, \"Their notice is 20 days for MAJOR, 8 for STANDARD, 3 for MINOR, none for URGENT, and twice as much in streets of the classes 0 and 1\"");
        int[] days = {20, 8, 3, 0};
        for (int grade = 0; grade <= 3; grade++) {
            for (int kind = 0; kind <= 3; kind++) {
                int notice = days[kind] * (grade == 0 || grade == 1 ? 2 : 1);
                Script.run(c, """
                    street 9 %1$d 0 -1
                    to 26
                    ask 0 0 0 0 50 %2$d %3$d 1 = Argument
                    ask 0 0 0 0 50 %2$d %4$d 1 = 0
                    ask 0 0 0 0 50 %2$d %5$d 1 = 1
                    """.formatted(grade, kind, notice, notice + 1, notice + 2));
            }
        }
    }

    private static void noticesBehindToday() {
        sentence("promise 10", "their first day is as many days behind today, or more", """
            street 9 2 0 -1
            ask 0 0 0 0 50 2 2 1 = Argument
            ask 0 0 0 0 50 2 3 1 = 0
            to 23
            ask 0 0 0 0 50 2 2 1 = Argument
            ask 0 0 0 0 50 2 3 1 = 1
            to 24
            ask 0 0 0 0 50 2 3 1 = Argument
            ask 0 0 0 0 50 2 4 1 = 2
            """);
    }

    private static void kinds() {
        sentence("promise 10", "kind: MAJOR to URGENT", """
            street 9 3 0 -1
            ask 0 0 0 0 50 -1 900 1 = Argument
            ask 0 0 0 0 50 0 900 1 = 0
            ask 0 0 0 0 50 1 900 1 = 1
            ask 0 0 0 0 50 2 900 1 = 2
            ask 0 0 0 0 50 3 900 1 = 3
            ask 0 0 0 0 50 4 900 1 = Argument
            """);
    }

    private static void urgentOnes() {
        sentence("promise 10", "Works are ASKED, but URGENT ones GRANTED at once, without conditions", """
            street 9 0 0 -1
            embargo 0 0 999
            surface 0
            ask 0 0 0 0 50 0 900 1 = 0
            ask 0 0 0 0 50 1 900 1 = 1
            ask 0 0 0 0 50 2 900 1 = 2
            ask 0 0 0 0 50 3 900 1 = 3
            ask 1 0 0 0 50 3 900 1 = 4
            of 0 0 = 0
            of 1 0 = 0
            of 2 0 = 0
            of 3 0 = 1
            of 4 0 = 1
            of 3 2 = 0
            of 3 3 = 0
            money 0 = 0
            money 5 = 0
            """);
    }

    // ---- granted, refused, settled

    private static void grants() {
        sentence("promise 11", "conditions: 0 to 3", """
            street 40 3 0 -1
            ask 0 0 0 0 50 2 9 1
            ask 0 0 5 5 50 2 9 1
            ask 0 0 10 10 50 2 9 1
            ask 0 0 15 15 50 2 9 1
            grant 0 -1 = Argument
            grant 0 4 = Argument
            of 0 0 = 0
            grant 0 0 = 20
            grant 1 1 = 20
            grant 2 2 = 20
            grant 3 3 = 20
            of 0 2 = 0
            of 1 2 = 1
            of 2 2 = 2
            of 3 2 = 3
            of 3 0 = 1
            """);
        sentence("promise 11", "they are not ASKED, or barred", """
            street 40 3 0 -1
            ask 0 0 0 0 50 2 9 1
            ask 0 0 0 0 50 2 9 1
            embargo 0 9 9
            grant 0 0 = State
            embargo 0 8 8
            surface 0
            grant 0 0 = State
            exempt 0
            grant 0 0 = 20
            grant 0 0 = State
            exempt 1
            grant 1 0 = State
            agree 0 1
            grant 1 0 = 20
            refuse 1
            grant 1 0 = State
            ask 0 0 20 20 50 3 0 1
            grant 2 0 = State
            start 2
            grant 2 0 = State
            stop 2
            grant 2 0 = State
            """);
    }

    private static void costs() {
        c.promise("promises 11 and 34, \"A permit costs 60 for MAJOR, 40 for STANDARD, 20 for MINOR, nothing for URGENT, times 4 less the class, when it is GRANTED, to the board\"");
        int[] base = {60, 40, 20};
        for (int grade = 0; grade <= 3; grade++) {
            for (int kind = 0; kind <= 2; kind++) {
                int cost = base[kind] * (4 - grade);
                Script.run(c, """
                    street 9 %1$d 0 -1
                    ask 2 0 0 0 50 %2$d 50 1
                    ask 3 0 8 8 50 %2$d 50 1
                    money 2 = 0
                    grant 0 3 = %3$d
                    money 2 = -%3$d
                    money 5 = %3$d
                    money 3 = 0
                    to 121
                    money 2 = -%3$d
                    money 3 = -%3$d
                    moneyAnew 3 = -%3$d
                    moneyAnew 5 = %4$d
                    refuse 0
                    money 2 = -%3$d
                    """.formatted(grade, kind, cost, 2 * cost));
            }
        }
    }

    private static void refusals() {
        sentence("promise 12", "Returns what they were; they are neither ASKED nor GRANTED", """
            street 9 3 0 -1
            ask 0 0 0 0 50 2 9 1
            ask 0 0 0 0 50 3 0 1
            ask 0 0 8 8 50 3 0 1
            refuse 0 = 0
            refuse 0 = State
            of 0 0 = 2
            refuse 1 = 1
            refuse 1 = State
            start 2
            refuse 2 = State
            stop 2
            refuse 2 = State
            of 2 0 = 4
            refuse 3 = Index
            """);
    }

    private static void settlingDays() {
        c.promise("promise 22, \"As a day begins that is 5 days behind the one on which works were asked for, 2 for MINOR ones, and they are still ASKED, they are settled\"");
        for (int kind = 0; kind <= 2; kind++) {
            for (int hour : new int[] {1, 23, 24, 47}) {
                int settled = (hour / 24 + (kind == 2 ? 2 : 5)) * 24;
                Script.run(c, """
                    street 9 3 0 -1
                    to %d
                    ask 0 0 0 0 50 %d 50 1
                    to %d
                    of 0 0 = 0
                    money 0 = 0
                    to %d
                    of 0 0 = 1
                    """.formatted(hour, kind, settled - 1, settled));
            }
        }
    }

    private static void settledOnes() {
        sentence("promise 22", "GRANTED without conditions", """
            street 9 3 0 -1
            ask 0 0 0 0 50 2 50 1
            to 48
            of 0 0 = 1
            of 0 2 = 0
            of 0 3 = 0
            money 0 = -20
            """);
        sentence("promise 22", "and they are still ASKED", """
            street 40 3 0 -1
            ask 0 0 0 0 50 2 50 1
            ask 1 0 10 10 50 2 50 1
            ask 2 0 20 20 50 2 50 1
            grant 0 3
            refuse 1
            grant 2 2
            vary 2 1
            to 49
            of 0 0 = 1
            of 0 2 = 3
            of 1 0 = 2
            of 2 2 = 1
            of 2 3 = 1
            money 0 = -20
            money 1 = 0
            money 2 = -20
            """);
        sentence("promise 22", "they are settled: once", """
            street 9 3 0 -1
            ask 0 0 0 0 50 2 50 1
            embargo 0 50 50
            to 48
            of 0 0 = 2
            embargo 0 0 0
            to 300
            of 0 0 = 2
            money 0 = 0
            """);
    }

    private static void settledByWhatBars() {
        sentence("promise 22", "or REFUSED, if something bars them", """
            street 40 3 0 -1
            street 40 3 0 -1
            street 40 3 0 -1
            embargo 0 50 50
            surface 1
            ask 0 0 0 0 50 2 50 1
            ask 0 0 9 9 50 2 51 1
            ask 0 1 0 0 50 2 99 1
            ask 0 1 9 9 50 2 100 1
            ask 0 1 20 20 50 2 99 1
            exempt 4
            ask 0 2 0 0 50 3 50 1
            ask 0 2 3 3 50 2 50 1
            ask 0 2 4 4 50 2 50 1
            ask 0 2 0 0 50 2 50 1
            agree 5 8
            agree 7 8
            to 47
            of 0 0 = 0
            to 48
            of 0 0 = 2
            of 1 0 = 1
            of 2 0 = 2
            of 3 0 = 1
            of 4 0 = 1
            of 6 0 = 2
            of 7 0 = 1
            of 8 0 = 1
            money 0 = -100
            """);
    }

    private static void settledLowestFirst() {
        sentence("promise 22", "one after the other, the lowest first", """
            street 40 3 0 -1
            ask 0 0 4 4 50 2 50 1
            ask 1 0 6 6 50 2 50 1
            ask 2 0 8 8 50 2 50 1
            to 48
            of 0 0 = 1
            of 1 0 = 2
            of 2 0 = 1
            """);
    }

    private static void conditions() {
        sentence("promise 13", "conditions: 0 to 3", """
            street 9 3 0 -1
            ask 0 0 0 0 50 3 0 1
            vary 0 -1 = Argument
            vary 0 0 = 1
            vary 0 1 = 2
            vary 0 2 = 3
            vary 0 3 = 4
            vary 0 4 = Argument
            of 0 2 = 3
            of 0 3 = 4
            """);
        sentence("promises 13 and 29", "each time there is another version, the first one is 0", """
            street 9 3 0 -1
            ask 0 0 0 0 50 2 9 1
            of 0 3 = 0
            grant 0 3
            of 0 3 = 0
            vary 0 3 = 1
            of 0 3 = 1
            vary 0 3 = 2
            """);
        sentence("promise 13", "they are neither GRANTED nor RUN", """
            street 9 3 0 -1
            ask 0 0 0 0 50 2 9 1
            ask 0 0 8 8 50 3 0 1
            vary 0 0 = State
            refuse 0
            vary 0 0 = State
            vary 1 2 = 1
            start 1
            vary 1 3 = 2
            stop 1
            vary 1 0 = State
            of 1 2 = 3
            of 1 3 = 2
            """);
    }

    private static void startDays() {
        sentence("promise 16", "GRANTED ones can be started on one of their days, and RUN", """
            street 9 3 0 -1
            4 x ask 0 0 0 0 50 3 2 2
            to 47
            start 0 = State
            to 48
            start 0 = 3
            of 0 0 = 3
            to 71
            start 1 = 3
            to 95
            start 2 = 3
            to 96
            start 3 = State
            of 3 0 = 1
            """);
        sentence("promise 16", "on one of their days: there is a single one", """
            street 9 3 0 -1
            3 x ask 0 0 0 0 50 3 2 1
            to 47
            start 0 = State
            to 48
            start 0 = 2
            to 71
            start 1 = 2
            to 72
            start 2 = State
            """);
        sentence("promise 16", "they are not GRANTED", """
            street 9 3 0 -1
            ask 0 0 0 0 50 2 3 9
            start 0 = State
            refuse 0
            ask 0 0 0 0 50 3 3 9
            to 72
            start 0 = State
            start 1 = 11
            start 1 = State
            stop 1
            start 1 = State
            start 2 = Index
            start -1 = Index
            """);
    }

    // ---- what bars works

    private static void embargoDays() {
        sentence("promises 4 and 27", "an embargo of their street that has one of their days", """
            street 9 3 0 -1
            street 9 3 0 -1
            ask 0 0 0 0 50 2 10 5
            bars 0 = 0
            embargo 0 0 9
            bars 0 = 0
            embargo 0 0 10
            bars 0 = 1
            embargo 0 12 12
            bars 0 = 1
            embargo 0 14 999
            bars 0 = 1
            embargo 0 15 999
            bars 0 = 0
            embargo 1 0 999
            bars 0 = 0
            embargo 0 0 999
            bars 0 = 1
            """);
        sentence("promise 4", "from: the first day, 0 to 999; to: the last day, from to 999", """
            street 9 3 0 -1
            embargo 0 -1 5 = Argument
            embargo 0 0 0 = 0
            embargo 0 5 4 = Argument
            embargo 0 5 5 = 0
            embargo 0 999 999 = 0
            embargo 0 999 1000 = Argument
            embargo 0 1000 1000 = Argument
            embargo 1 0 0 = Index
            embargo -1 0 0 = Index
            """);
        sentence("promise 4", "in place of the one that it has", """
            street 9 3 0 -1
            ask 0 0 0 0 50 2 10 1
            ask 0 0 0 0 50 2 20 1
            embargo 0 10 10
            bars 0 = 1
            bars 1 = 0
            embargo 0 20 20
            bars 0 = 0
            bars 1 = 1
            """);
    }

    private static void embargoesReturn() {
        sentence("promise 4", "Returns how many works of the street are GRANTED that have one of these days; they stay so", """
            street 9 3 0 -1
            street 9 3 0 -1
            ask 0 0 0 0 50 3 10 5
            ask 0 0 0 0 50 3 14 1
            ask 0 0 0 0 50 2 10 5
            ask 0 0 0 0 50 3 10 5
            refuse 3
            ask 0 0 8 8 50 3 0 20
            start 4
            ask 0 1 0 0 50 3 10 5
            embargo 0 0 9 = 0
            embargo 0 0 10 = 1
            embargo 0 13 13 = 1
            embargo 0 14 14 = 2
            embargo 0 14 999 = 2
            embargo 0 15 999 = 0
            embargo 1 0 999 = 1
            embargo 0 0 999 = 2
            of 0 0 = 1
            of 1 0 = 1
            of 4 0 = 3
            """);
    }

    private static void firstOfWhatBars() {
        sentence("promise 27", "What bars works is the first of these", """
            street 9 3 0 -1
            ask 0 0 0 0 50 2 10 1
            ask 0 0 0 0 50 3 10 1
            bars 0 = 3
            surface 0
            bars 0 = 2
            embargo 0 10 10
            bars 0 = 1
            exempt 0
            bars 0 = 1
            embargo 0 11 11
            bars 0 = 3
            agree 0 1
            bars 0 = 0
            exempt 0
            bars 0 = 2
            bars 2 = Index
            bars -1 = Index
            """);
    }

    private static void urgentOnesAreNotBarred() {
        sentence("promise 27", "URGENT ones are never barred", """
            street 9 3 0 -1
            ask 0 0 0 0 50 3 0 1
            ask 0 0 0 0 50 3 0 1
            surface 0
            embargo 0 0 999
            bars 0 = 0
            meets 0 0 = 1
            start 0
            bars 0 = 0
            stop 0
            bars 0 = 0
            refuse 1
            bars 1 = 0
            """);
    }

    private static void barredByThoseAlone() {
        sentence("promise 27", "Works are barred by those alone that are GRANTED or RUN", """
            street 9 3 0 -1
            ask 0 0 0 0 50 2 3 9
            ask 0 0 0 0 50 2 3 9
            bars 0 = 0
            bars 1 = 0
            grant 1 0 = 20
            bars 0 = 3
            bars 1 = 0
            meets 1 0 = 0
            to 47
            bars 0 = 3
            agree 0 1
            to 72
            of 0 0 = 1
            start 1
            agree 0 1
            bars 0 = 3
            bars 1 = 3
            stop 1
            bars 0 = 0
            ask 0 0 0 0 50 3 3 9
            bars 0 = 3
            refuse 2
            bars 0 = 0
            """);
    }

    private static void barredWhateverTheyAre() {
        sentence("promise 27", "whatever they are (REFUSED and DONE ones meet none)", """
            street 9 3 0 -1
            ask 0 0 0 0 50 2 3 2
            grant 0 0
            to 72
            start 0
            ask 0 0 0 0 50 3 3 2
            ask 0 0 0 0 50 2 6 2
            bars 0 = 3
            bars 2 = 0
            stop 0
            bars 0 = 0
            refuse 2
            ask 0 0 0 0 50 3 6 2
            bars 2 = 0
            embargo 0 4 7
            bars 0 = 1
            bars 2 = 1
            embargo 0 0 0
            surface 0
            bars 0 = 2
            bars 2 = 2
            """);
    }

    // ---- works that meet

    private static void meetingStates() {
        c.promise("promise 28, \"Two works meet if one of them at least is GRANTED or RUNs, and the other one is neither REFUSED nor DONE\"");
        for (int a = 0; a <= 4; a++) {
            for (int b = 0; b <= 4; b++) {
                boolean meet = (stands(a) && !isOver(b)) || (stands(b) && !isOver(a));
                Script.run(c, "street 9 3 0 -1\n" + lead(0, a) + lead(1, b) + """
                    of 0 0 = %d
                    of 1 0 = %d
                    meets 0 0 = %d
                    meets 1 0 = %d
                    """.formatted(a, b, meet ? 1 : -1, meet ? 0 : -1));
            }
        }
    }

    private static boolean stands(int state) {
        return state == 1 || state == 3;
    }

    private static boolean isOver(int state) {
        return state == 2 || state == 4;
    }

    /** The calls that lead works to a state. */
    private static String lead(int works, int state) {
        String asked = "ask 0 0 4 4 50 2 5 4\n";
        String urgent = "ask 0 0 4 4 50 3 0 9\n";
        return state == 0 ? asked : state == 1 ? urgent : state == 2 ? asked + "refuse " + works + "\n"
            : state == 3 ? urgent + "start " + works + "\n" : urgent + "start " + works + "\nstop " + works + "\n";
    }

    private static void daysInCommon() {
        sentence("promise 28", "they have a day in common", """
            street 9 3 0 -1
            ask 0 0 4 4 50 3 10 5
            ask 0 0 4 4 50 2 5 5
            ask 0 0 4 4 50 2 5 6
            ask 0 0 4 4 50 2 12 1
            ask 0 0 4 4 50 2 5 20
            ask 0 0 4 4 50 2 14 5
            ask 0 0 4 4 50 2 15 5
            ask 0 0 4 4 50 2 10 1
            ask 0 0 4 4 50 2 9 1
            meets 1 0 = -1
            meets 2 0 = 0
            meets 3 0 = 0
            meets 4 0 = 0
            meets 5 0 = 0
            meets 6 0 = -1
            meets 7 0 = 0
            meets 8 0 = -1
            meets 0 0 = 2
            meets 0 6 = 7
            meets 0 8 = -1
            """);
    }

    private static void metresBetween() {
        sentence("promise 28", "they are in one street, with fewer than 3 metres between them", """
            street 20 3 0 -1
            street 20 3 0 -1
            ask 0 0 8 10 50 3 10 5
            ask 0 0 0 4 50 2 10 5
            ask 0 0 0 5 50 2 10 5
            ask 0 0 0 7 50 2 10 5
            ask 0 0 9 9 50 2 10 5
            ask 0 0 0 19 50 2 10 5
            ask 0 0 13 19 50 2 10 5
            ask 0 0 14 19 50 2 10 5
            ask 0 1 8 10 50 2 10 5
            meets 1 0 = -1
            meets 2 0 = 0
            meets 3 0 = 0
            meets 4 0 = 0
            meets 5 0 = 0
            meets 6 0 = 0
            meets 7 0 = -1
            meets 8 0 = -1
            meets 0 0 = 2
            meets 0 3 = 3
            meets 0 6 = 6
            meets 0 7 = -1
            """);
    }

    private static void waysAround() {
        sentence("promise 28", "or one of them in the way around of the other's street", """
            street 20 3 0 -1
            street 20 3 0 0
            street 20 3 0 1
            street 20 3 0 0
            ask 0 0 0 0 50 2 10 5
            ask 0 1 19 19 50 2 10 5
            ask 0 2 0 0 50 2 10 5
            ask 0 3 0 0 50 2 10 5
            grant 1 0
            bars 0 = 3
            bars 1 = 0
            bars 2 = 3
            bars 3 = 0
            meets 0 0 = 1
            meets 2 0 = 1
            meets 3 0 = -1
            meets 1 0 = 0
            meets 1 1 = 2
            meets 1 3 = -1
            refuse 1
            grant 0 0
            ask 0 1 19 19 50 2 10 5
            bars 4 = 3
            bars 2 = 0
            bars 3 = 3
            """);
    }

    private static void agreements() {
        sentence("promises 15 and 28", "they do not agree; Lets two works agree, or not any more", """
            street 9 3 0 -1
            3 x ask 0 0 4 4 50 3 0 1
            meets 0 0 = 1
            agree 0 1 = 1
            meets 0 0 = 2
            meets 1 0 = 2
            meets 2 0 = 0
            agree 1 2 = 1
            meets 1 0 = -1
            meets 0 0 = 2
            agree 1 0 = 0
            meets 0 0 = 1
            meets 1 0 = 0
            meets 1 1 = -1
            """);
        sentence("promise 15", "both are the same", """
            street 9 3 0 -1
            2 x ask 0 0 4 4 50 3 0 1
            agree 0 0 = Argument
            agree 1 1 = Argument
            agree 2 2 = Index
            agree 0 2 = Index
            agree 2 0 = Index
            agree -1 0 = Index
            agree 0 -1 = Index
            agree 1 0 = 1
            refuse 0
            agree 1 0 = 0
            """);
        c.promise("promise 15, \"Lets two works agree\": the first and the last ones");
        Calls b = Calls.of("street 9 3 0 -1");
        for (int i = 0; i < 24; i++) {
            b.call("ask 0 0 4 4 50 3 0 1");
        }
        c.due("agree 0 23", b.call("agree 0 23"), 1);
        c.due("meets 23 0", b.call("meets 23 0"), 1);
        c.due("meets 0 23", b.call("meets 0 23"), -1);
        c.due("meets 1 23", b.call("meets 1 23"), 23);
        c.due("agree 23 22", b.call("agree 23 22"), 1);
        c.due("meets 22 23", b.call("meets 22 23"), -1);
        c.due("agree 23 0", b.call("agree 23 0"), 0);
        c.due("meets 0 23", b.call("meets 0 23"), 23);
    }

    private static void lowestFromOneOn() {
        sentence("promise 28", "Returns the lowest works, from one on, that works meet; from: 0 or more", """
            street 9 3 0 -1
            4 x ask 0 0 4 4 50 3 0 1
            meets 2 -1 = Argument
            meets 2 -2147483648 = Argument
            meets 2 0 = 0
            meets 2 1 = 1
            meets 2 2 = 3
            meets 2 3 = 3
            meets 2 4 = -1
            meets 2 23 = -1
            meets 2 24 = -1
            meets 2 2147483647 = -1
            meets 3 3 = -1
            meets 4 0 = Index
            meets 4 -1 = Index
            meets -1 0 = Index
            """);
    }

    private static void lateOnes() {
        sentence("promises 27 and 28", "if they RUN, and the last of these is over, the days up to today, too", """
            street 9 3 0 -1
            ask 0 0 4 4 50 2 3 2
            grant 0 0
            to 72
            start 0
            ask 1 0 4 4 50 3 5 1
            ask 1 0 4 4 50 3 6 1
            ask 1 0 4 4 50 3 7 1
            to 119
            meets 0 0 = -1
            embargo 0 5 5
            bars 0 = 0
            to 120
            meets 0 0 = 1
            meets 0 2 = -1
            bars 0 = 1
            embargo 0 6 6
            bars 0 = 3
            to 144
            meets 0 1 = 1
            meets 0 2 = 2
            meets 0 3 = -1
            meets 3 0 = -1
            bars 0 = 1
            embargo 0 7 999
            bars 0 = 3
            embargo 0 5 5
            bars 0 = 1
            stop 0
            bars 0 = 0
            embargo 0 4 4
            bars 0 = 1
            """);
        sentence("promise 27", "the days up to today, too: on which the street is new", """
            street 9 3 0 -1
            ask 0 0 4 4 50 2 3 2
            grant 0 0
            to 72
            start 0
            to 119
            bars 0 = 0
            to 120
            surface 0 = 104
            bars 0 = 2
            to 144
            surface 0 = 105
            bars 0 = 2
            stop 0
            bars 0 = 0
            """);
        sentence("promises 27 and 28", "if they RUN: GRANTED ones have no days behind their last one", """
            street 9 3 0 -1
            ask 0 0 4 4 50 2 3 2
            grant 0 0
            ask 1 0 4 4 50 3 5 1
            to 120
            meets 0 0 = -1
            meets 1 0 = -1
            embargo 0 5 5 = 1
            bars 0 = 0
            """);
    }

    private static void exemptions() {
        sentence("promises 14 and 27", "one of their days on which the street is new, if they are not exempt", """
            street 9 3 0 -1
            ask 0 0 4 4 50 2 9 1
            surface 0
            bars 0 = 2
            exempt 0 = 1
            of 0 7 = 1
            bars 0 = 0
            exempt 0 = 0
            of 0 7 = 0
            bars 0 = 2
            refuse 0
            exempt 0 = 1
            bars 0 = 0
            exempt 1 = Index
            exempt -1 = Index
            """);
    }

    private static void whatIsToldOfWorks() {
        sentence("promise 29", "what: 0 to 7", """
            street 9 3 0 -1
            thing 1 0 4 4 50
            thing 1 0 4 4 50
            thing 1 0 4 4 50
            ask 0 0 4 5 50 3 2 3
            to 48
            start 0 = 4
            open 0 4 = 3
            open 0 5 = 0
            extend 0 = 6
            vary 0 3
            vary 0 2
            vary 0 3
            plate 0
            exempt 0
            of 0 -1 = Argument
            of 0 0 = 3
            of 0 1 = 6
            of 0 2 = 3
            of 0 3 = 3
            of 0 4 = 2
            of 0 5 = 2
            of 0 6 = 1
            of 0 7 = 1
            of 0 8 = Argument
            of 1 0 = Index
            of -1 0 = Index
            """);
    }
}
