/** The bounds that the document's sentences name, a test each: metres that are opened and filled, strikes, plates. */
public final class DiggingBoundsTest {
    private static final Check c = new Check();

    public static void main(String[] args) {
        metresOfTheirs();
        runningOnes();
        openByWhomever();
        suspectAndNotSure();
        depthsOfStrikes();
        placesOfStrikes();
        strikesOfAllThings();
        sureMetresAreNotStruck();
        payments();
        plates();
        quietOnes();
        fills();
        densities();
        openByThese();
        findsAndExtensions();
        extensionsThatMeet();
        extensionsAndMetresBetween();
        extensionsAndWaysAround();
        extensionsOfLateOnes();
        extendedDays();
        stops();
        daysBehindTheLast();
        c.end("DiggingBoundsTest");
    }

    private static void sentence(String promise, String sentence, String text) {
        Script.sentence(c, promise, sentence, text);
    }

    // ---- opened

    private static void metresOfTheirs() {
        sentence("promise 17", "there are no such works, or the metre is none of theirs", """
            street 9 3 0 -1
            ask 0 0 3 5 50 3 0 9
            start 0
            open 0 2 = Index
            open 0 3 = 0
            open 0 5 = 0
            open 0 6 = Index
            open 0 -1 = Index
            open 0 9 = Index
            open 1 4 = Index
            open -1 4 = Index
            of 0 5 = 2
            """);
        sentence("promise 17", "the metre is none of theirs: at the ends of a street", """
            street 9 3 0 -1
            ask 0 0 0 8 50 3 0 9
            start 0
            open 0 -1 = Index
            open 0 0 = 0
            open 0 8 = 0
            open 0 9 = Index
            """);
    }

    private static void runningOnes() {
        sentence("promise 17", "they do not RUN", """
            street 9 3 0 -1
            ask 0 0 0 8 50 2 3 9
            open 0 4 = State
            refuse 0
            open 0 4 = State
            ask 0 0 0 8 50 3 0 9
            open 1 4 = State
            start 1
            open 1 4 = 0
            fill 1 4 90
            stop 1
            open 1 4 = State
            metre 0 4 2 = -1
            """);
    }

    private static void openByWhomever() {
        sentence("promise 17", "the metre is open, by whomever", """
            street 9 3 0 -1
            2 x ask 0 0 0 8 50 3 0 9
            start 0
            start 1
            open 0 4 = 0
            open 0 4 = State
            open 1 4 = State
            open 1 3 = 0
            open 1 5 = 0
            metre 0 4 2 = 0
            metre 0 5 2 = 1
            of 0 5 = 1
            of 1 5 = 2
            fill 0 4 90
            open 1 4 = 0
            metre 0 4 2 = 1
            of 0 5 = 0
            """);
    }

    private static void suspectAndNotSure() {
        sentence("promise 17", "or suspect and not sure", """
            street 9 3 0 -1
            ask 0 0 0 8 50 3 0 9
            start 0
            thing 1 0 0 0 50
            record 0 3 4 1
            open 0 1 = 0
            open 0 2 = State
            open 0 5 = State
            open 0 6 = 0
            metre 0 2 1 = 0
            trial 0 2
            open 0 2 = 0
            open 0 3 = State
            lose 0
            open 0 3 = 0
            fill 0 3 90
            record 0 3 4 1
            open 0 3 = 0
            fill 0 3 90
            thing 1 0 3 3 300
            open 0 3 = State
            """);
    }

    // ---- struck

    private static void depthsOfStrikes() {
        c.promise("promise 17, \"all things that truly lie there, not deeper than the works are, are struck\"");
        int[][] depths = {{10, 10, 1}, {10, 11, 0}, {50, 49, 1}, {50, 50, 1}, {50, 51, 0}, {299, 300, 0}, {300, 299, 1}, {300, 300, 1}};
        for (int[] d : depths) {
            Script.run(c, """
                street 9 3 0 -1
                thing 1 0 4 4 %1$d
                ask 0 0 4 4 %2$d 3 0 9
                start 0
                open 0 4 = %3$d
                of 0 4 = %3$d
                money 1 = %4$d
                """.formatted(d[1], d[0], d[2], 1000 * d[2]));
        }
    }

    private static void placesOfStrikes() {
        sentence("promise 17", "all things that truly lie there", """
            street 9 3 0 -1
            street 9 3 0 -1
            thing 1 0 3 5 50
            record 0 7 8 0
            ask 0 0 0 8 50 3 0 9
            ask 0 1 0 8 50 3 0 9
            start 0
            start 1
            open 0 2 = 0
            open 0 3 = 1
            open 0 4 = 1
            open 0 5 = 1
            open 0 6 = 0
            open 1 4 = 0
            of 0 4 = 3
            of 1 4 = 0
            """);
    }

    private static void strikesOfAllThings() {
        sentence("promise 17", "the works have a find for each", """
            street 9 3 0 -1
            28 x thing 1 0 4 4 50
            thing 2 0 4 4 51
            thing 0 0 4 4 50
            ask 0 0 0 8 50 3 0 9
            ask 0 0 0 8 50 3 0 9
            start 0
            start 1
            open 0 4 = 29
            of 0 4 = 29
            of 1 4 = 0
            money 0 = -28000
            money 1 = 28000
            money 2 = 0
            """);
    }

    private static void sureMetresAreNotStruck() {
        sentence("promise 17", "As a metre is opened that is not sure; Then the metre is sure", """
            street 9 3 0 -1
            thing 1 0 3 4 50
            ask 0 0 0 8 50 3 0 9
            start 0
            trial 0 3
            open 0 3 = 0
            open 0 4 = 1
            metre 0 4 1 = 1
            fill 0 4 90
            open 0 4 = 0
            fill 0 4 90
            thing 2 0 4 4 50
            open 0 4 = 2
            fill 0 4 90
            thing 2 0 5 5 50
            open 0 4 = 0
            thing 2 0 4 4 50
            fill 0 4 90
            open 0 4 = 3
            of 0 4 = 6
            """);
    }

    private static void payments() {
        sentence("promises 17, 34 and 35", "the promoter pays the owner of each one 1000", """
            street 9 3 0 -1
            thing 1 0 3 3 50
            thing 2 0 3 3 50
            thing 0 0 3 3 50
            ask 0 0 0 8 50 3 0 9
            start 0
            money 0 = 0
            open 0 3 = 3
            money 0 = -2000
            money 1 = 1000
            money 2 = 1000
            money 5 = 0
            moneyAnew 0 = -2000
            moneyAnew 1 = 1000
            moneyAnew 2 = 1000
            moneyAnew 5 = 0
            """);
    }

    // ---- plates, conditions

    private static void plates() {
        sentence("promises 17 and 19", "Plates cover all open metres of works; no metre is opened by these then", """
            street 9 3 0 -1
            2 x ask 0 0 0 8 50 3 0 9
            start 0
            start 1
            plate 0 = 1
            of 0 6 = 1
            open 0 3 = State
            open 1 3 = 0
            plate 0 = 0
            of 0 6 = 0
            open 0 4 = 0
            plate 0 = 1
            open 0 5 = State
            fill 0 4 90 = 1
            of 0 6 = 1
            open 0 4 = State
            """);
        sentence("promise 19", "they do not RUN", """
            street 9 3 0 -1
            ask 0 0 0 8 50 2 3 9
            plate 0 = State
            refuse 0
            plate 0 = State
            ask 0 0 0 8 50 3 0 9
            plate 1 = State
            start 1
            plate 1 = 1
            stop 1
            plate 1 = State
            plate 2 = Index
            plate -1 = Index
            """);
        sentence("promises 21 and 29", "stopped, they are DONE, and have no plates", """
            street 9 3 0 -1
            ask 0 0 0 8 50 3 0 9
            start 0
            plate 0
            of 0 6 = 1
            stop 0
            of 0 0 = 4
            of 0 6 = 0
            """);
    }

    private static void quietOnes() {
        c.promise("promise 17, \"QUIET, no metre is opened in a busy hour\"");
        for (int conditions = 0; conditions <= 3; conditions++) {
            String due = conditions % 2 == 1 ? "State" : "0";
            Script.run(c, """
                street 9 3 0 -1
                ask 0 0 0 8 50 3 0 9
                start 0
                vary 0 %1$d
                to 6
                open 0 0 = 0
                to 7
                open 0 1 = %2$s
                to 9
                open 0 2 = %2$s
                to 10
                open 0 3 = 0
                to 15
                open 0 4 = 0
                to 16
                open 0 5 = %2$s
                to 18
                open 0 6 = %2$s
                to 19
                open 0 7 = 0
                fill 0 0 90
                """.formatted(conditions, due));
        }
        sentence("promise 18", "QUIET, no metre is opened in a busy hour: but filled", """
            street 9 3 0 -1
            ask 0 0 0 8 50 3 0 9
            start 0
            vary 0 1
            open 0 0
            to 8
            fill 0 0 90 = 1
            """);
    }

    // ---- filled

    private static void fills() {
        sentence("promises 18 and 30", "A metre that is filled keeps all fills, over one another", """
            street 9 3 0 -1
            2 x ask 0 0 3 5 50 3 0 9
            start 0
            start 1
            metre 0 3 3 = 0
            open 0 3
            metre 0 3 3 = 0
            fill 0 3 90 = 1
            open 0 3
            metre 0 3 3 = 1
            fill 0 3 90 = 2
            open 1 3
            fill 1 3 90 = 3
            metre 0 3 3 = 3
            metre 0 4 3 = 0
            """);
        sentence("promise 18", "there are no such works, or the metre is none of theirs", """
            street 9 3 0 -1
            2 x ask 0 0 3 5 50 3 0 9
            ask 0 0 0 8 50 3 0 9
            start 2
            open 2 2
            fill 0 2 90 = Index
            fill 0 6 90 = Index
            fill 2 -1 90 = Index
            fill 2 9 90 = Index
            fill 3 2 90 = Index
            fill -1 2 90 = Index
            fill 2 2 90 = 1
            """);
    }

    private static void densities() {
        sentence("promise 18", "density: 0 to 100", """
            street 9 3 0 -1
            ask 0 0 0 8 50 3 0 9
            start 0
            open 0 0
            fill 0 0 -1 = Argument
            fill 0 0 101 = Argument
            metre 0 0 2 = 0
            fill 0 0 0 = 1
            open 0 0
            fill 0 0 100 = 2
            core 0 0 = 100
            """);
        sentence("promises 18 and 24", "density: 0 to 100: the least", """
            street 9 3 0 -1
            ask 0 0 0 8 50 3 0 9
            start 0
            open 0 0
            fill 0 0 0 = 1
            core 0 0 = 0
            """);
    }

    private static void openByThese() {
        sentence("promise 18", "it is not open by these works", """
            street 9 3 0 -1
            2 x ask 0 0 0 8 50 3 0 9
            start 0
            start 1
            fill 0 4 90 = State
            open 0 4
            fill 1 4 90 = State
            metre 0 4 2 = 0
            fill 0 4 90 = 1
            metre 0 4 2 = -1
            fill 0 4 90 = State
            open 1 4
            fill 0 4 90 = State
            fill 1 4 90 = 2
            """);
    }

    // ---- extended

    private static void findsAndExtensions() {
        sentence("promises 20 and 29", "For each find works can be extended once, by 2 days", """
            street 9 3 0 -1
            thing 1 0 4 4 50
            thing 1 0 4 4 50
            ask 0 0 0 8 50 3 0 3
            start 0
            extend 0 = State
            open 0 4 = 2
            of 0 1 = 2
            extend 0 = 4
            of 0 1 = 4
            of 0 4 = 1
            extend 0 = 6
            of 0 4 = 0
            extend 0 = State
            of 0 1 = 6
            fill 0 4 90
            thing 1 0 4 4 50
            open 0 4 = 3
            extend 0 = 8
            of 0 4 = 2
            """);
        sentence("promise 20", "they do not RUN", """
            street 9 3 0 -1
            thing 1 0 4 4 50
            ask 0 0 0 8 50 2 3 3
            extend 0 = State
            refuse 0
            extend 0 = State
            ask 0 0 0 8 50 3 0 3
            extend 1 = State
            start 1
            open 1 4 = 1
            fill 1 4 90
            stop 1
            extend 1 = State
            of 1 4 = 1
            of 1 1 = 2
            extend 2 = Index
            extend -1 = Index
            """);
    }

    private static void extensionsThatMeet() {
        c.promise("promise 20, \"or would meet works then that are GRANTED or RUN\": by their days");
        for (int day = 3; day <= 6; day++) {
            Script.run(c, """
                street 9 3 0 -1
                thing 1 0 2 2 50
                ask 0 0 2 2 50 3 0 3
                start 0
                open 0 2 = 1
                ask 1 0 2 2 50 2 %1$d 1
                extend 0 = 4
                """.formatted(day));
            Script.run(c, """
                street 9 3 0 -1
                thing 1 0 2 2 50
                ask 0 0 2 2 50 3 0 3
                start 0
                open 0 2 = 1
                ask 1 0 2 2 50 3 %1$d 1
                extend 0 = %2$s
                of 0 1 = %3$d
                of 0 4 = %4$d
                """.formatted(day, day <= 4 ? "State" : "4", day <= 4 ? 2 : 4, day <= 4 ? 1 : 0));
        }
        sentence("promise 20", "would meet works then that are GRANTED or RUN: and neither REFUSED ones nor those that agree", """
            street 9 3 0 -1
            thing 1 0 2 2 50
            thing 1 0 2 2 50
            ask 1 0 2 2 50 3 3 1
            ask 0 0 2 2 50 3 0 3
            start 1
            open 1 2 = 2
            extend 1 = State
            agree 0 1
            extend 1 = 4
            agree 0 1
            extend 1 = State
            refuse 0
            extend 1 = 6
            """);
        sentence("promise 20", "would meet works then that are GRANTED or RUN: or DONE", """
            street 9 3 0 -1
            thing 1 0 2 2 50
            ask 0 0 2 2 50 3 0 3
            ask 1 0 2 2 50 3 2 9
            agree 0 1
            start 0
            open 0 2 = 1
            to 48
            start 1
            agree 0 1
            extend 0 = State
            stop 1
            extend 0 = 4
            """);
    }

    private static void extensionsAndWaysAround() {
        for (int kind = 2; kind <= 3; kind++) {
            c.promise("promise 20, \"or would meet works then that are GRANTED or RUN\": by the way around, kind " + kind);
            Script.run(c, """
                street 9 3 0 -1
                street 9 3 0 0
                street 9 3 0 0
                thing 1 1 2 2 50
                thing 1 1 2 2 50
                ask 0 1 2 2 50 %d 3 3
                to 72
                start 0
                open 0 2 = 2
                ask 1 2 2 2 50 3 6 1
                extend 0 = 7
                ask 1 0 8 8 50 3 8 1
                extend 0 = State
                refuse 2
                extend 0 = 9
                """.formatted(kind));
        }
    }

    private static void extensionsAndMetresBetween() {
        c.promise("promise 20, \"or would meet works then that are GRANTED or RUN\": by the metres between them");
        for (int between = 1; between <= 4; between++) {
            Script.run(c, """
                street 9 3 0 -1
                thing 1 0 2 2 50
                ask 0 0 2 2 50 3 0 3
                start 0
                open 0 2 = 1
                ask 1 0 %d 8 50 3 4 1
                extend 0 = %s
                """.formatted(3 + between, between < 3 ? "State" : "4"));
        }
    }

    private static void extensionsOfLateOnes() {
        c.promise("promise 20, \"would meet works then\": with the days up to today");
        for (int day = 3; day <= 6; day++) {
            Script.run(c, """
                street 9 3 0 -1
                thing 1 0 2 2 50
                ask 0 0 2 2 50 3 0 1
                start 0
                open 0 2 = 1
                ask 1 0 2 2 50 3 %d 1
                to 120
                extend 0 = %s
                of 0 0 = 3
                """.formatted(day, day <= 5 ? "State" : "2"));
        }
    }

    private static void extendedDays() {
        sentence("promises 20 and 28", "those by which they were extended, behind these", """
            street 9 3 0 -1
            thing 1 0 2 2 50
            ask 0 0 2 2 50 3 0 3
            start 0
            open 0 2 = 1
            ask 1 0 2 2 50 2 3 1
            ask 1 0 2 2 50 2 4 1
            ask 1 0 2 2 50 2 5 1
            meets 0 0 = -1
            extend 0 = 4
            meets 0 0 = 1
            meets 0 2 = 2
            meets 0 3 = -1
            bars 2 = 3
            bars 3 = 0
            """);
    }

    // ---- stopped

    private static void stops() {
        sentence("promise 21", "they do not RUN, or have an open metre", """
            street 9 3 0 -1
            ask 0 0 0 8 50 2 3 9
            stop 0 = State
            refuse 0
            stop 0 = State
            2 x ask 0 0 0 8 50 3 0 9
            stop 1 = State
            start 1
            start 2
            open 1 0
            open 1 8
            stop 1 = State
            stop 2 = 0
            plate 1
            stop 1 = State
            fill 1 0 90
            stop 1 = State
            fill 1 8 90
            stop 1 = 0
            stop 1 = State
            stop 3 = Index
            stop -1 = Index
            """);
    }

    private static void daysBehindTheLast() {
        c.promise("promise 21, \"Returns how many days of theirs are behind the last one, as told and extended\"");
        int[][] due = {{1, 0}, {47, 0}, {48, 0}, {71, 0}, {72, 1}, {95, 1}, {96, 2}, {300, 10}};
        for (int[] d : due) {
            Script.run(c, """
                street 9 3 0 -1
                ask 0 0 0 8 50 3 0 3
                start 0
                to %d
                stop 0 = %d
                of 0 1 = 2
                """.formatted(d[0], d[1]));
            Script.run(c, """
                street 9 3 0 -1
                thing 1 0 0 0 50
                ask 0 0 0 8 50 3 0 1
                start 0
                open 0 0
                fill 0 0 90
                extend 0 = 2
                to %d
                stop 0 = %d
                of 0 1 = 2
                """.formatted(d[0], d[1]));
        }
    }
}
