/** The bounds that the document's sentences name, a test each: fines, rents, queues, filled metres, defects, cores. */
public final class HoursBoundsTest {
    private static final Check c = new Check();

    public static void main(String[] args) {
        lateFines();
        lateFinesOfEach();
        rents();
        rentsOfThoseThatTakeTheStreet();
        halfRents();
        coveredOnes();
        queuesOfEachClass();
        queuesOfTakenStreets();
        queuesAtLeastNothing();
        halfOfTheFlow();
        flowsOfSeveralStreets();
        depthsOfLiability();
        worksAsDeepOrDeeper();
        daysOfLiability();
        longerAgo();
        surfacesBehindFills();
        surfacesOnTheSameDay();
        wrongLiability();
        defects();
        cores();
        coresOnceForAFill();
        dueWithoutFaults();
        dueWithFaults();
        dueLessCores();
        moneyAtFirst();
        moneyAnew();
        allCallsOfAnObject();
        c.end("HoursBoundsTest");
    }

    private static void sentence(String promise, String sentence, String text) {
        Script.sentence(c, promise, sentence, text);
    }

    // ---- fines and rents

    private static void lateFines() {
        c.promise("promise 22, \"the promoters of works that RUN, whose last day, as told and extended, is over, are fined 500 times 4 less the class, each\"");
        for (int grade = 0; grade <= 3; grade++) {
            int fine = 500 * (4 - grade);
            Script.run(c, """
                street 9 %1$d 0 -1
                ask 0 0 0 8 50 3 0 2
                ask 1 0 0 8 50 3 0 2
                start 0
                to 47
                money 0 = 0
                to 48
                money 0 = -%2$d
                money 5 = %2$d
                to 71
                money 0 = -%2$d
                to 72
                money 0 = -%3$d
                stop 0 = 2
                to 96
                money 0 = -%3$d
                moneyAnew 5 = %3$d
                money 1 = 0
                """.formatted(grade, fine, 2 * fine));
        }
    }

    private static void lateFinesOfEach() {
        sentence("promise 22", "whose last day, as told and extended, is over", """
            street 9 3 0 -1
            thing 0 0 0 0 50
            ask 0 0 0 8 50 3 0 1
            start 0
            open 0 0 = 1
            fill 0 0 90
            extend 0 = 2
            to 71
            money 0 = 0
            to 72
            money 0 = -500
            """);
        sentence("promise 22", "are fined 500 times 4 less the class, each", """
            street 9 3 0 -1
            street 9 1 0 -1
            ask 0 0 0 8 50 3 0 1
            ask 0 0 0 8 50 3 0 1
            ask 0 1 0 8 50 3 0 1
            ask 1 1 0 8 50 3 0 2
            start 0
            start 1
            start 2
            start 3
            to 24
            money 0 = -2500
            money 1 = 0
            to 48
            money 0 = -5000
            money 1 = -1500
            """);
    }

    private static void rents() {
        c.promise("promise 22, \"the promoter pays a rent of 50 times 4 less the class\"");
        for (int grade = 0; grade <= 3; grade++) {
            int rent = 50 * (4 - grade);
            Script.run(c, """
                street 9 %1$d 0 -1
                ask 0 0 0 8 50 3 0 9
                start 0
                open 0 0
                open 0 8
                to 6
                money 0 = 0
                to 7
                money 0 = -%2$d
                money 5 = %2$d
                to 9
                money 0 = -%3$d
                to 15
                moneyAnew 0 = -%3$d
                moneyAnew 5 = %3$d
                """.formatted(grade, rent, 3 * rent));
        }
    }

    private static void rentsOfThoseThatTakeTheStreet() {
        sentence("promise 22", "Works that RUN, and have an open metre and no plates, take their street", """
            street 9 3 0 -1
            ask 0 0 0 8 50 3 0 9
            ask 1 0 0 8 50 3 0 9
            ask 2 0 0 8 50 3 0 9
            start 0
            start 1
            open 0 0
            open 0 1
            to 7
            money 0 = -50
            money 1 = 0
            money 2 = 0
            fill 0 0 90
            to 8
            money 0 = -100
            plate 0
            to 9
            money 0 = -100
            to 15
            plate 0
            to 16
            money 0 = -150
            fill 0 1 90
            to 17
            money 0 = -150
            """);
    }

    private static void halfRents() {
        c.promise("promise 22, \"half of it if other works that agree with these take the same street in that hour\"");
        for (int grade = 0; grade <= 3; grade++) {
            int rent = 50 * (4 - grade);
            Script.run(c, """
                street 9 %1$d 0 -1
                street 9 %1$d 0 -1
                ask 0 0 0 0 50 3 0 9
                ask 1 0 8 8 50 3 0 9
                ask 2 1 0 0 50 3 0 9
                start 0
                start 1
                start 2
                open 0 0
                open 1 8
                open 2 0
                agree 0 2
                to 7
                money 0 = -%2$d
                money 1 = -%2$d
                money 2 = -%2$d
                agree 1 0
                to 8
                money 0 = -%3$d
                money 1 = -%3$d
                money 2 = -%4$d
                plate 1
                to 9
                money 0 = -%5$d
                money 1 = -%3$d
                """.formatted(grade, rent, rent + rent / 2, 2 * rent, 2 * rent + rent / 2));
        }
        sentence("promise 22", "other works that agree with these take the same street: with no open metre they don't", """
            street 9 3 0 -1
            ask 0 0 0 0 50 3 0 9
            ask 1 0 8 8 50 3 0 9
            ask 2 0 4 4 50 3 0 9
            start 0
            start 1
            start 2
            agree 0 1
            open 0 0
            open 2 4
            to 7
            money 0 = -50
            money 2 = -50
            open 1 8
            to 8
            money 0 = -75
            money 1 = -25
            money 2 = -100
            fill 1 8 90
            to 9
            money 0 = -125
            """);
    }

    private static void coveredOnes() {
        c.promise("promise 22, \"COVERED, for each busy hour in which works have an open metre and no plates their promoter is fined 200\"");
        for (int conditions = 0; conditions <= 3; conditions++) {
            int fine = conditions >= 2 ? 200 : 0;
            Script.run(c, """
                street 9 3 0 -1
                ask 0 0 0 8 50 3 0 9
                start 0
                vary 0 %1$d
                open 0 0
                open 0 1
                to 6
                money 0 = 0
                to 7
                money 0 = -%2$d
                to 8
                money 0 = -%3$d
                money 5 = %3$d
                moneyAnew 0 = -%3$d
                plate 0
                to 9
                money 0 = -%3$d
                plate 0
                fill 0 0 90
                fill 0 1 90
                to 19
                money 0 = -%3$d
                """.formatted(conditions, 50 + fine, 100 + 2 * fine));
        }
    }

    // ---- queues

    private static void queuesOfEachClass() {
        c.promise("promises 22 and 32, \"100 get through, and 40 more for each 1 of 3 less the class\"");
        for (int grade = 0; grade <= 3; grade++) {
            int through = 100 + 40 * (3 - grade);
            Script.run(c, """
                street 9 %1$d %2$d -1
                street 9 %1$d %3$d -1
                street 9 %1$d %4$d -1
                queue 1 = 0
                pass 1
                queue 0 = 0
                queue 1 = 0
                queue 2 = 1
                pass 2
                queue 0 = 0
                queue 1 = 0
                queue 2 = 3
                """.formatted(grade, through - 1, through, through + 1));
        }
    }

    private static void queuesOfTakenStreets() {
        c.promise("promises 22 and 32, \"half of these if the street is taken\"");
        for (int grade = 0; grade <= 3; grade++) {
            int through = (100 + 40 * (3 - grade)) / 2;
            Script.run(c, """
                street 9 %1$d %2$d -1
                street 9 %1$d %3$d -1
                ask 0 0 0 0 50 3 0 9
                ask 0 1 0 0 50 3 0 9
                start 0
                start 1
                open 0 0
                open 1 0
                pass 2
                queue 0 = 0
                queue 1 = 2
                plate 1
                pass 1
                queue 1 = 0
                """.formatted(grade, through, through + 1));
        }
    }

    private static void queuesAtLeastNothing() {
        sentence("promises 22 and 32", "A queue is what it was and what came, less what gets through, at least 0", """
            street 9 3 80 -1
            ask 0 0 0 0 50 3 0 9
            start 0
            open 0 0
            pass 1
            queue 0 = 30
            pass 1
            queue 0 = 60
            fill 0 0 90
            pass 1
            queue 0 = 40
            pass 2
            queue 0 = 0
            pass 1
            queue 0 = 0
            open 0 0
            pass 1
            queue 0 = 30
            queue 1 = Index
            queue -1 = Index
            """);
    }

    private static void halfOfTheFlow() {
        c.promise("promises 22 and 32, \"if it is taken, and has a way around, half of it, rounded down, comes to that instead\"");
        int[][] halves = {{400, 200, 200}, {401, 200, 201}, {999, 499, 500}, {303, 151, 152}};
        for (int[] h : halves) {
            Script.run(c, """
                street 9 3 100 -1
                street 9 3 %1$d 0
                ask 0 1 0 0 50 3 0 9
                start 0
                pass 1
                queue 0 = 0
                queue 1 = %2$d
                open 0 0
                pass 1
                queue 0 = %3$d
                queue 1 = %4$d
                """.formatted(h[0], h[0] - 100, h[1], h[0] - 100 + h[2] - 50));
        }
        sentence("promises 22 and 32", "half of it, rounded down: of 0 and of 1", """
            street 9 3 100 -1
            street 9 3 0 0
            street 9 3 1 0
            street 9 3 2 0
            ask 0 1 0 0 50 3 0 9
            ask 0 2 0 0 50 3 0 9
            ask 0 3 0 0 50 3 0 9
            start 0
            start 1
            start 2
            open 0 0
            open 1 0
            pass 1
            queue 0 = 0
            open 2 0
            pass 1
            queue 0 = 1
            """);
        sentence("promises 22 and 32", "if it is taken, and has a way around: it has none", """
            street 9 3 400 -1
            street 9 3 100 0
            ask 0 0 0 0 50 3 0 9
            start 0
            open 0 0
            pass 1
            queue 0 = 350
            queue 1 = 0
            """);
    }

    private static void flowsOfSeveralStreets() {
        sentence("promises 22 and 32", "comes to that instead: it goes no further, even if that is taken", """
            street 9 3 100 -1
            street 9 3 101 0
            street 9 3 301 1
            street 9 3 201 1
            ask 0 1 0 0 50 3 0 9
            ask 0 2 0 0 50 3 0 9
            ask 0 3 0 0 50 3 0 9
            start 0
            start 1
            start 2
            open 0 0
            open 1 0
            open 2 0
            pass 1
            queue 0 = 50
            queue 1 = 251
            queue 2 = 101
            queue 3 = 51
            """);
    }

    // ---- filled metres

    private static void depthsOfLiability() {
        c.promise("promises 25 and 26, \"of those whose works are as deep or deeper\"");
        for (int depth : new int[] {10, 50, 299, 300}) {
            Script.run(c, """
                street 9 3 0 -1
                ask 0 0 0 8 %1$d 3 0 9
                start 0
                liable 0 0 0 = -1
                open 0 0
                liable 0 0 0 = -1
                fill 0 0 90
                liable 0 0 0 = 0
                liable 0 0 %2$d = 0
                liable 0 0 %1$d = 0
                liable 0 0 %3$d = %4$s
                liable 0 1 %1$d = -1
                liableAnew 0 0 0 = 0
                liableAnew 0 0 %2$d = 0
                liableAnew 0 0 %1$d = 0
                liableAnew 0 0 %3$d = %4$s
                liableAnew 0 1 %1$d = -1
                """.formatted(depth, depth - 1, depth + 1, depth == 300 ? "Argument" : "-1"));
        }
    }

    private static void worksAsDeepOrDeeper() {
        sentence("promises 25 and 26", "the works of its latest fill, of those whose works are as deep or deeper", """
            street 9 3 0 -1
            ask 0 0 0 8 100 3 0 9
            ask 0 0 0 8 50 3 0 9
            ask 0 0 0 8 200 3 0 9
            start 0
            start 1
            start 2
            open 2 4
            fill 2 4 90
            open 0 4
            fill 0 4 90
            open 1 4
            fill 1 4 90
            liable 0 4 50 = 1
            liable 0 4 51 = 0
            liable 0 4 100 = 0
            liable 0 4 101 = 2
            liable 0 4 200 = 2
            liable 0 4 201 = -1
            liableAnew 0 4 50 = 1
            liableAnew 0 4 51 = 0
            liableAnew 0 4 100 = 0
            liableAnew 0 4 101 = 2
            liableAnew 0 4 200 = 2
            liableAnew 0 4 201 = -1
            open 0 4
            liable 0 4 50 = 1
            fill 0 4 90
            liable 0 4 50 = 0
            liableAnew 0 4 50 = 0
            """);
        sentence("promises 25 and 26", "of a metre: not of another one, nor of another street", """
            street 9 3 0 -1
            street 9 3 0 -1
            ask 0 0 0 8 100 3 0 9
            ask 0 1 0 8 100 3 0 9
            start 0
            start 1
            open 0 4
            fill 0 4 90
            open 1 5
            fill 1 5 90
            liable 0 3 5 = -1
            liable 0 4 5 = 0
            liable 0 5 5 = -1
            liable 1 4 5 = -1
            liable 1 5 5 = 1
            liableAnew 0 3 5 = -1
            liableAnew 0 4 5 = 0
            liableAnew 0 5 5 = -1
            liableAnew 1 4 5 = -1
            liableAnew 1 5 5 = 1
            """);
    }

    private static void daysOfLiability() {
        c.promise("promises 23, 25 and 26, \"if that was not more than 200 days ago, or 300, if the works are 120 deep or more\"");
        for (int depth : new int[] {119, 120, 121}) {
            for (int filled : new int[] {24, 47}) {
                int days = depth >= 120 ? 300 : 200;
                int over = (1 + days + 1) * 24;
                Script.run(c, """
                    street 9 3 0 -1
                    to %2$d
                    ask 0 0 0 8 %1$d 3 1 9
                    start 0
                    open 0 0
                    fill 0 0 90
                    stop 0
                    to %3$d
                    liable 0 0 0 = 0
                    liable 0 0 %1$d = 0
                    liableAnew 0 0 0 = 0
                    liableAnew 0 0 %1$d = 0
                    defect 0 0 %1$d = 0
                    to %4$d
                    liable 0 0 0 = -1
                    liable 0 0 %1$d = -1
                    liableAnew 0 0 0 = -1
                    liableAnew 0 0 %1$d = -1
                    defect 0 0 %1$d = -1
                    money 0 = -300
                    """.formatted(depth, filled, over - 1, over));
            }
        }
    }

    private static void longerAgo() {
        sentence("promises 25 and 26", "nobody, if it is longer ago, whatever fills were ahead of it", """
            street 9 3 0 -1
            ask 0 0 0 8 120 3 0 9
            ask 0 0 0 8 50 3 0 9
            start 0
            start 1
            open 0 4
            fill 0 4 90
            open 1 4
            fill 1 4 90
            stop 0
            stop 1
            to 4823
            liable 0 4 50 = 1
            liableAnew 0 4 50 = 1
            to 4824
            liable 0 4 50 = -1
            liable 0 4 51 = 0
            liableAnew 0 4 50 = -1
            liableAnew 0 4 51 = 0
            to 7223
            liable 0 4 120 = 0
            liableAnew 0 4 120 = 0
            to 7224
            liable 0 4 120 = -1
            liableAnew 0 4 120 = -1
            """);
    }

    private static void surfacesBehindFills() {
        sentence("promises 25 and 26", "or if the defect is less deep than 10, and the street was surfaced behind that fill", """
            street 9 3 0 -1
            street 9 3 0 -1
            ask 0 0 0 8 50 3 0 9
            start 0
            open 0 4
            fill 0 4 90
            to 24
            surface 1
            liable 0 4 0 = 0
            liableAnew 0 4 0 = 0
            surface 0
            liable 0 4 0 = -1
            liable 0 4 9 = -1
            liable 0 4 10 = 0
            liable 0 4 11 = 0
            liableAnew 0 4 0 = -1
            liableAnew 0 4 9 = -1
            liableAnew 0 4 10 = 0
            liableAnew 0 4 11 = 0
            defect 0 4 9 = -1
            defect 0 4 10 = 0
            money 0 = -300
            """);
    }

    private static void surfacesOnTheSameDay() {
        sentence("promises 25 and 26", "as it was told, perhaps on the same day", """
            street 9 3 0 -1
            ask 0 0 0 8 50 3 0 9
            start 0
            surface 0
            open 0 4
            fill 0 4 90
            liable 0 4 9 = 0
            liableAnew 0 4 9 = 0
            surface 0
            liable 0 4 9 = -1
            liableAnew 0 4 9 = -1
            open 0 4
            fill 0 4 90
            liable 0 4 9 = 0
            liableAnew 0 4 9 = 0
            open 0 5
            fill 0 5 90
            liable 0 4 9 = 0
            surface 0
            surface 0
            liable 0 4 9 = -1
            liable 0 5 9 = -1
            liableAnew 0 4 9 = -1
            liableAnew 0 5 9 = -1
            """);
    }

    private static void wrongLiability() {
        for (String call : new String[] {"liable", "liableAnew", "defect"}) {
            int promise = call.equals("defect") ? 23 : call.equals("liable") ? 25 : 26;
            sentence("promise " + promise, "depth: 0 to 300; there is no such street or metre", """
                street 9 3 0 -1
                ask 0 0 0 8 300 3 0 9
                start 0
                open 0 0
                fill 0 0 90
                open 0 8
                fill 0 8 90
                # 0 0 -1 = Argument
                # 0 0 0 = 0
                # 0 0 300 = 0
                # 0 0 301 = Argument
                # 0 -1 0 = Index
                # 0 8 0 = 0
                # 0 9 0 = Index
                # -1 0 0 = Index
                # 1 0 0 = Index
                """.replace("#", call));
        }
    }

    private static void defects() {
        sentence("promise 23", "the promoter of the works that are liable pays the board 300, and has a fault", """
            street 9 3 0 -1
            ask 0 0 0 8 50 3 0 9
            ask 3 0 0 8 50 3 0 9
            start 0
            start 1
            open 1 1
            fill 1 1 90
            """ + filled(20, 0) + """
            due 0 = 1
            defect 0 2 5 = -1
            defect 0 0 51 = -1
            due 0 = 1
            money 0 = 0
            defect 0 0 50 = 0
            due 0 = 2
            money 0 = -300
            money 5 = 300
            defect 0 0 50 = 0
            due 0 = 3
            money 0 = -600
            due 3 = 1
            money 3 = 0
            defect 0 1 5 = 1
            money 3 = -300
            moneyAnew 3 = -300
            moneyAnew 0 = -600
            moneyAnew 5 = 900
            due 0 = 3
            """);
    }

    private static void cores() {
        c.promise("promise 24, \"the promoter of its works has a fault, if that is below 80\"");
        for (int density : new int[] {0, 78, 79, 80, 81, 100}) {
            Script.run(c, "street 9 3 0 -1\nask 0 0 0 8 50 3 0 9\nstart 0\n" + filled(40, 0) + """
                open 0 1
                fill 0 1 %d
                due 0 = 3
                core 0 1 = %d
                due 0 = %d
                money 0 = 0
                """.formatted(density, density, density < 80 ? 4 : 2));
        }
    }

    /** As many fills of a metre by works 0. */
    private static String filled(int times, int metre) {
        return ("open 0 " + metre + "\nfill 0 " + metre + " 90\n").repeat(times);
    }

    private static void coresOnceForAFill() {
        sentence("promise 24", "A core takes the density of the latest fill of a metre, once for a fill", """
            street 9 3 0 -1
            ask 0 0 0 8 50 3 0 9
            start 0
            core 0 4 = State
            open 0 4
            core 0 4 = State
            fill 0 4 85
            open 0 4
            fill 0 4 95
            core 0 4 = 95
            core 0 4 = State
            open 0 4
            core 0 4 = State
            fill 0 4 90
            open 0 4
            core 0 4 = 90
            core 0 4 = State
            core 0 3 = State
            core 0 -1 = Index
            core 0 0 = State
            core 0 8 = State
            core 0 9 = Index
            core 1 0 = Index
            core -1 0 = Index
            """);
    }

    // ---- what is due

    private static void dueWithoutFaults() {
        c.promise("promise 33, \"cores of as many of the fills as 5 hundredths of them are, rounded up\"");
        int[][] due = {{0, 0}, {1, 1}, {19, 1}, {20, 1}, {21, 2}, {40, 2}, {41, 3}, {100, 5}, {101, 6}};
        for (int[] d : due) {
            Script.run(c, "street 9 3 0 -1\nask 0 0 0 8 50 3 0 9\nstart 0\n" + filled(d[0], 0) + """
                due 0 = %d
                due 1 = 0
                """.formatted(d[1]));
        }
    }

    private static void dueWithFaults() {
        c.promise("promise 33, \"and 5 more for each fault, at most 50, rounded up\"");
        for (int fills : new int[] {1, 2, 3, 20, 21, 39}) {
            for (int faults = 0; faults <= 12; faults++) {
                int hundredths = faults < 9 ? 5 + 5 * faults : 50;
                int due = 0;
                while (due * 100 < fills * hundredths) {
                    due++;
                }
                Script.run(c, "street 9 3 0 -1\nask 0 0 0 8 50 3 0 9\nstart 0\n" + filled(fills, 0)
                    + "defect 0 0 50 = 0\n".repeat(faults) + "due 0 = " + due);
            }
        }
    }

    private static void dueLessCores() {
        sentence("promise 33", "less the cores that there were, at least 0", "street 9 3 0 -1\nask 0 0 0 8 50 3 0 9\nstart 0\n"
            + filled(40, 0) + filled(1, 1) + filled(1, 2) + filled(1, 3) + """
            due 0 = 3
            core 0 0
            due 0 = 2
            core 0 1
            due 0 = 1
            core 0 2
            due 0 = 0
            core 0 3
            due 0 = 0
            defect 0 0 50
            due 0 = 1
            due -1 = Index
            due 4 = 0
            due 5 = Index
            """);
    }

    // ---- money

    private static void moneyAtFirst() {
        sentence("promises 1, 34 and 35", "what came to it less what it paid, 0 at first", """
            money 0 = 0
            money 1 = 0
            money 2 = 0
            money 3 = 0
            money 4 = 0
            money 5 = 0
            money 6 = Index
            money -1 = Index
            moneyAnew 0 = 0
            moneyAnew 4 = 0
            moneyAnew 5 = 0
            moneyAnew 6 = Index
            moneyAnew -1 = Index
            """);
    }

    private static void moneyAnew() {
        sentence("promises 34 and 35", "Returns the same, found by going through all payments", """
            street 9 0 0 -1
            thing 4 0 0 0 50
            thing 1 0 0 0 50
            ask 4 0 0 8 50 3 0 1
            ask 1 0 8 8 50 0 40 1
            start 0
            open 0 0 = 2
            vary 0 2
            grant 1 0 = 240
            to 24
            fill 0 0 10
            defect 0 0 10
            money 4 = -5700
            money 1 = 760
            money 5 = 4940
            moneyAnew 4 = -5700
            moneyAnew 1 = 760
            moneyAnew 5 = 4940
            """);
    }

    // ---- calls

    /** The 512th call is answered still, whatever the ones ahead of it were. */
    private static void allCallsOfAnObject() {
        String works = "street 9 3 0 -1\nask 0 0 0 8 50 3 0 9\nstart 0\n";
        for (String last : new String[] {"metre 0 4 3 = 254", "due 0 = 13", "liableAnew 0 4 50 = 0", "open 0 4 = 0"}) {
            sentence("promises 18, 26, 30 and 33", "An object is used for at most 512 calls: fills", works + filled(254, 4) + last);
        }
        sentence("promise 18", "An object is used for at most 512 calls: fills", works + filled(253, 4)
            + "open 0 4\nmetre 0 4 3 = 253\nfill 0 4 90 = 254");
        for (String last : new String[] {"liable 0 4 9 = -1", "liableAnew 0 4 9 = -1", "liableAnew 0 4 10 = 0", "surface 0 = 99"}) {
            sentence("promises 3, 25 and 26", "An object is used for at most 512 calls: surfaces",
                works + filled(1, 4) + "506 x surface 0 = 99\n" + last);
        }
        sentence("promise 26", "An object is used for at most 512 calls: a fill behind all surfaces", works + "504 x surface 0 = 99\n"
            + "open 0 4\nfill 0 4 90 = 1\nopen 0 5\nfill 0 5 90 = 1\nliableAnew 0 4 9 = 0");
        sentence("promise 13", "An object is used for at most 512 calls: versions", works + "508 x vary 0 3\nof 0 3 = 508");
        sentence("promise 22", "An object is used for at most 512 calls: hours", "511 x pass 1\npass 1 = 512");
        sentence("promises 22 and 35", "An object is used for at most 512 calls: payments", works + """
            vary 0 2
            open 0 0
            49 x pass 200
            pass 199
            moneyAnew 0 = -828750
            money 0 = -828750
            moneyAnew 5 = 828750
            """);
    }
}
