/** The bounds that the document's sentences name, a test each: hours, streets, things in the ground. */
public final class GroundBoundsTest {
    private static final Check c = new Check();

    public static void main(String[] args) {
        hours();
        days();
        busyHours();
        busyHoursOfTheLastDay();
        streets();
        metresOfStreets();
        classesAndFlows();
        waysAround();
        newSurfaces();
        surfaceWithOpenMetres();
        promoters();
        things();
        placesOfThings();
        records();
        suspectMetres();
        suspectMetresAtTheEnds();
        recordsAreReplacedAndLost();
        sureMetres();
        surveys();
        trials();
        searches();
        whatIsToldOfMetres();
        c.end("GroundBoundsTest");
    }

    private static void sentence(String promise, String sentence, String text) {
        Script.sentence(c, promise, sentence, text);
    }

    // ---- hours, streets

    private static void hours() {
        sentence("promises 1 and 22", "Hours are numbered from 0 to 9999", """
            pass 1 = 1
            to 9998
            pass 2 = State
            pass 1 = 9999
            pass 1 = State
            pass 200 = State
            """);
        sentence("promise 22", "it would be above 9999", """
            to 9799
            pass 200 = 9999
            """);
        sentence("promise 22", "it would be above 9999", """
            to 9800
            pass 200 = State
            pass 199 = 9999
            """);
        sentence("promise 22", "hours: 1 to 200", """
            pass -1 = Argument
            pass 0 = Argument
            pass 1 = 1
            pass 2 = 3
            pass 199 = 202
            pass 200 = 402
            pass 201 = Argument
            pass 2147483647 = Argument
            pass -2147483648 = Argument
            pass 1 = 403
            """);
    }

    private static void days() {
        sentence("promises 10 and 22", "A day has 24: the day is the hour by 24", """
            street 5 3 0 -1
            ask 0 0 0 0 50 3 -1 1 = Argument
            ask 0 0 0 0 50 3 0 1 = 0
            to 23
            ask 0 0 0 0 50 3 0 1 = 1
            to 24
            ask 0 0 0 0 50 3 0 1 = Argument
            ask 0 0 0 0 50 3 1 1 = 2
            to 47
            ask 0 0 0 0 50 3 1 1 = 3
            to 48
            ask 0 0 0 0 50 3 1 1 = Argument
            ask 0 0 0 0 50 3 2 1 = 4
            to 9983
            ask 0 0 0 0 50 3 415 1 = 5
            to 9984
            ask 0 0 0 0 50 3 415 1 = Argument
            to 9999
            ask 0 0 0 0 50 3 416 1 = 6
            """);
    }

    /** By the rent, and by what QUIET works may do, in each hour of three days. */
    private static void busyHours() {
        c.promise("promises 17 and 22, \"the hours 7, 8, 9, 16, 17 and 18 of each day are busy\"");
        Calls b = Calls.of("street 5 3 0 -1", "ask 0 0 0 0 50 3 0 60", "start 0", "open 0 0",
            "ask 1 0 1 1 50 3 0 60", "start 1", "vary 1 1");
        long paid = 0;
        for (int hour = 1; hour <= 72; hour++) {
            b.call("pass 1");
            boolean busy = isBusy(hour % 24);
            paid += busy ? 50 : 0;
            c.due("money 0 in the hour " + hour, b.call("money 0"), -paid);
            c.due("open 1 1 in the hour " + hour, b.call("open 1 1"), busy ? Calls.STATE : 0);
            if (!busy) {
                b.call("fill 1 1 90");
            }
        }
    }

    private static void busyHoursOfTheLastDay() {
        sentence("promise 22", "the hours 7, 8, 9, 16, 17 and 18 of each day are busy", """
            street 5 3 0 -1
            to 9984
            ask 0 0 0 0 50 3 416 9
            start 0
            open 0 0
            to 9990
            money 0 = 0
            to 9991
            money 0 = -50
            to 9993
            money 0 = -150
            to 9999
            money 0 = -150
            """);
    }

    private static boolean isBusy(int hourOfDay) {
        for (int busy : new int[] {7, 8, 9, 16, 17, 18}) {
            if (busy == hourOfDay) {
                return true;
            }
        }
        return false;
    }

    private static void streets() {
        sentence("promise 2", "Streets are numbered from 0, at most 6", """
            queue 0 = Index
            street 5 0 0 -1 = 0
            street 5 0 0 -1 = 1
            street 5 0 0 -1 = 2
            street 5 0 0 -1 = 3
            street 5 0 0 -1 = 4
            queue 5 = Index
            street 5 0 0 -1 = 5
            queue 5 = 0
            street 5 0 0 -1 = State
            queue 6 = Index
            """);
    }

    private static void metresOfStreets() {
        sentence("promise 2", "a street has 1 to 40 metres, numbered from 0", """
            street -1 0 0 -1 = Argument
            street 0 0 0 -1 = Argument
            street 1 0 0 -1 = 0
            street 2 0 0 -1 = 1
            street 39 0 0 -1 = 2
            street 40 0 0 -1 = 3
            street 41 0 0 -1 = Argument
            trial 0 -1 = Index
            trial 0 0 = 0
            trial 0 1 = Index
            trial 1 1 = 0
            trial 1 2 = Index
            trial 2 38 = 0
            trial 2 39 = Index
            trial 3 39 = 0
            trial 3 40 = Index
            """);
    }

    private static void classesAndFlows() {
        sentence("promise 2", "a class, 0, the heaviest one, to 3", """
            street 5 -1 0 -1 = Argument
            street 5 0 0 -1 = 0
            street 5 1 0 -1 = 1
            street 5 2 0 -1 = 2
            street 5 3 0 -1 = 3
            street 5 4 0 -1 = Argument
            """);
        sentence("promise 2", "flow: 0 to 999: in an hour", """
            street 5 3 -1 -1 = Argument
            street 5 3 0 -1 = 0
            street 5 3 1 -1 = 1
            street 5 3 998 -1 = 2
            street 5 3 999 -1 = 3
            street 5 3 1000 -1 = Argument
            pass 1
            queue 0 = 0
            queue 1 = 0
            queue 2 = 898
            queue 3 = 899
            """);
    }

    private static void waysAround() {
        sentence("promise 2", "perhaps an earlier street that is its way around", """
            street 5 0 0 0 = Index
            street 5 0 0 -2 = Index
            street 5 0 0 -1 = 0
            street 5 0 0 1 = Index
            street 5 0 0 0 = 1
            street 5 0 0 2 = Index
            street 5 0 0 1 = 2
            street 5 0 0 -1 = 3
            """);
    }

    private static void newSurfaces() {
        sentence("promises 3 and 27", "A street is new on the day on which it was surfaced last, and on the 99 days behind that", """
            street 9 3 0 -1
            street 9 3 0 -1
            ask 0 0 0 0 50 2 4 1 = 0
            ask 0 0 0 0 50 2 5 1 = 1
            ask 0 0 0 0 50 2 4 2 = 2
            agree 0 2
            agree 1 2
            to 120
            bars 1 = 0
            bars 2 = 0
            surface 0 = 104
            bars 0 = 0
            bars 1 = 2
            bars 2 = 2
            ask 0 0 8 8 50 2 103 1 = 3
            ask 0 0 8 8 50 2 104 1 = 4
            ask 0 0 8 8 50 2 105 1 = 5
            ask 0 0 8 8 50 2 104 2 = 6
            ask 0 1 8 8 50 2 104 1 = 7
            bars 3 = 2
            bars 4 = 2
            bars 5 = 0
            bars 6 = 2
            bars 7 = 0
            """);
        sentence("promises 3 and 27", "on which it was surfaced last", """
            street 9 3 0 -1
            surface 0 = 99
            to 23
            surface 0 = 99
            ask 0 0 0 0 50 2 100 1 = 0
            ask 0 0 0 0 50 2 101 1 = 1
            bars 0 = 0
            to 24
            surface 0 = 100
            bars 0 = 2
            bars 1 = 0
            """);
        sentence("promises 3 and 27", "on the day on which it was surfaced last: an earlier day is not new any more", """
            street 9 3 0 -1
            ask 0 0 0 0 50 2 3 1 = 0
            to 72
            surface 0 = 102
            bars 0 = 2
            to 96
            surface 0 = 103
            bars 0 = 0
            """);
    }

    private static void surfaceWithOpenMetres() {
        sentence("promise 3", "if a metre of it is open", """
            street 9 3 0 -1
            street 9 3 0 -1
            ask 0 0 0 8 50 3 0 9
            start 0
            surface 0 = 99
            open 0 0
            surface 0 = State
            surface 1 = 99
            plate 0
            surface 0 = State
            fill 0 0 90
            surface 0 = 99
            plate 0
            open 0 8
            surface 0 = State
            fill 0 8 90
            surface 0 = 99
            """);
    }

    private static void promoters() {
        sentence("promises 5, 10, 33, 34 and 35", "Those who dig are the promoters 0 to 4; 5 is the board", """
            street 5 3 0 -1
            thing -1 0 0 0 50 = Index
            thing 0 0 0 0 50 = 0
            thing 4 0 0 0 50 = 1
            thing 5 0 0 0 50 = Index
            ask -1 0 0 0 50 3 0 1 = Index
            ask 0 0 0 0 50 3 0 1 = 0
            ask 4 0 0 0 50 3 0 1 = 1
            ask 5 0 0 0 50 3 0 1 = Index
            due -1 = Index
            due 0 = 0
            due 4 = 0
            due 5 = Index
            money -1 = Index
            money 0 = 0
            money 5 = 0
            money 6 = Index
            moneyAnew -1 = Index
            moneyAnew 0 = 0
            moneyAnew 5 = 0
            moneyAnew 6 = Index
            """);
    }

    // ---- things in the ground

    private static void things() {
        sentence("promise 5", "Things are numbered from 0, at most 30", """
            street 5 3 0 -1
            lose 0 = Index
            thing 0 0 0 0 50 = 0
            27 x thing 0 0 0 0 50
            thing 0 0 0 0 50 = 28
            lose 29 = Index
            thing 0 0 0 0 50 = 29
            lose 29 = 0
            thing 0 0 0 0 50 = State
            lose 30 = Index
            trial 0 0 = 30
            record 29 0 0 0 = 1
            search 0 0 0 = 536870912
            """);
        sentence("promise 5", "depth: 10 to 300", """
            street 5 3 0 -1
            thing 0 0 0 0 9 = Argument
            thing 0 0 0 0 10 = 0
            thing 0 0 0 0 11 = 1
            thing 0 0 0 0 299 = 2
            thing 0 0 0 0 300 = 3
            thing 0 0 0 0 301 = Argument
            """);
    }

    private static void placesOfThings() {
        sentence("promises 5 and 9", "truly lies in a street, from a metre to another one", """
            street 9 3 0 -1
            street 9 3 0 -1
            thing 0 0 2 4 50 = 0
            trial 0 1 = 0
            trial 0 2 = 1
            trial 0 3 = 1
            trial 0 4 = 1
            trial 0 5 = 0
            trial 1 3 = 0
            """);
        sentence("promise 5", "to is ahead of from", """
            street 9 3 0 -1
            thing 0 0 4 3 50 = Argument
            thing 0 0 4 4 50 = 0
            thing 0 0 4 5 50 = 1
            thing 0 0 0 8 50 = 2
            thing 0 0 8 0 50 = Argument
            """);
        sentence("promise 5", "there is no such promoter, street or metre", """
            street 9 3 0 -1
            thing 0 -1 0 0 50 = Index
            thing 0 1 0 0 50 = Index
            thing 0 0 -1 8 50 = Index
            thing 0 0 0 9 50 = Index
            thing 0 0 9 9 50 = Index
            thing 0 0 0 0 50 = 0
            thing 0 0 8 8 50 = 1
            """);
    }

    private static void records() {
        sentence("promise 6", "from: the first metre, of its street; to: the last metre", """
            street 9 3 0 -1
            street 3 3 0 -1
            thing 0 0 4 4 50
            thing 0 1 1 1 50
            record 0 -1 4 0 = Index
            record 0 0 4 0 = 5
            record 0 4 8 0 = 5
            record 0 4 9 0 = Index
            record 0 0 8 0 = 9
            record 1 0 2 0 = 3
            record 1 0 3 0 = Index
            record 0 5 4 0 = Argument
            record 0 4 4 0 = 1
            record 0 9 4 0 = Index
            record 2 0 0 0 = Index
            record -1 0 0 0 = Index
            """);
        sentence("promise 6", "off: 0 to 3: how far off it may be", """
            street 9 3 0 -1
            thing 0 0 4 4 50
            record 0 4 4 -1 = Argument
            record 0 4 4 0 = 1
            record 0 4 4 1 = 3
            record 0 4 4 2 = 5
            record 0 4 4 3 = 7
            record 0 4 4 4 = Argument
            """);
    }

    private static void suspectMetres() {
        c.promise("promises 6 and 30, \"the metres of the street from there to there, and as many to either side as the record may be off, are suspect\"");
        for (int off = 0; off <= 3; off++) {
            Script.run(c, """
                street 20 3 0 -1
                street 20 3 0 -1
                thing 0 0 0 0 50
                record 0 8 10 %d = %d
                metre 0 %d 0 = 0
                metre 0 %d 0 = 1
                metre 0 9 0 = 1
                metre 0 %d 0 = 1
                metre 0 %d 0 = 0
                metre 1 9 0 = 0
                """.formatted(off, 3 + 2 * off, 7 - off, 8 - off, 10 + off, 11 + off));
        }
    }

    private static void suspectMetresAtTheEnds() {
        sentence("promise 6", "Returns how many metres are suspect by it: of the street", """
            street 20 3 0 -1
            street 1 3 0 -1
            thing 0 0 10 10 50
            thing 0 1 0 0 50
            record 0 4 4 3 = 7
            metre 0 0 0 = 0
            record 0 3 3 3 = 7
            metre 0 0 0 = 1
            record 0 2 2 3 = 6
            record 0 0 0 3 = 4
            record 0 15 15 3 = 7
            metre 0 19 0 = 0
            record 0 16 16 3 = 7
            metre 0 19 0 = 1
            record 0 17 17 3 = 6
            record 0 19 19 3 = 4
            record 0 0 19 3 = 20
            record 0 3 16 3 = 20
            record 0 4 16 3 = 19
            record 1 0 0 3 = 1
            """);
    }

    private static void recordsAreReplacedAndLost() {
        sentence("promises 5 and 30", "Lays a thing into the ground, without a record", """
            street 9 3 0 -1
            thing 0 0 4 4 50
            metre 0 4 0 = 0
            search 0 0 8 = 0
            lose 0 = 0
            """);
        sentence("promise 6", "in place of the record that it has", """
            street 9 3 0 -1
            thing 0 0 4 4 50
            record 0 1 2 0
            record 0 6 7 0
            search 0 0 5 = 0
            search 0 6 6 = 1
            """);
        sentence("promise 7", "Returns whether it had one", """
            street 9 3 0 -1
            thing 0 0 4 4 50
            lose 0 = 0
            record 0 1 2 0
            lose 0 = 1
            metre 0 1 0 = 0
            lose 0 = 0
            """);
    }

    private static void sureMetres() {
        sentence("promise 30", "A metre is sure if it was opened, or had a trial hole", """
            street 9 3 0 -1
            street 9 3 0 -1
            ask 0 0 0 8 50 3 0 9
            start 0
            metre 0 4 1 = 0
            trial 0 4
            metre 0 3 1 = 0
            metre 0 4 1 = 1
            metre 0 5 1 = 0
            metre 1 4 1 = 0
            open 0 7
            metre 0 6 1 = 0
            metre 0 7 1 = 1
            metre 0 8 1 = 0
            fill 0 7 90
            metre 0 7 1 = 1
            surface 0
            metre 0 7 1 = 1
            """);
        sentence("promises 5 and 30", "and nothing came to lie there behind that", """
            street 9 3 0 -1
            street 9 3 0 -1
            ask 0 0 0 8 50 3 0 9
            start 0
            thing 1 0 3 3 300
            trial 0 3
            metre 0 3 1 = 1
            trial 0 4
            trial 0 6
            open 0 7
            thing 1 0 5 5 300
            thing 1 1 4 4 300
            metre 0 4 1 = 1
            metre 0 6 1 = 1
            thing 1 0 4 6 300
            metre 0 3 1 = 1
            metre 0 4 1 = 0
            metre 0 6 1 = 0
            metre 0 7 1 = 1
            thing 1 0 7 8 300
            metre 0 7 1 = 0
            metre 0 7 2 = 0
            trial 0 7
            metre 0 7 1 = 1
            record 0 4 4 0
            metre 0 4 1 = 0
            """);
    }

    private static void surveys() {
        sentence("promise 8", "A thing can be surveyed if it truly lies in a metre that is sure: its first one", """
            street 9 3 0 -1
            street 9 3 0 -1
            thing 0 0 3 5 50
            record 0 7 8 0
            survey 0 = State
            trial 0 2
            trial 0 6
            trial 0 7
            trial 1 4
            survey 0 = State
            trial 0 3
            survey 0 = 2
            """);
        sentence("promise 8", "A thing can be surveyed if it truly lies in a metre that is sure: its last one", """
            street 9 3 0 -1
            thing 0 0 3 5 50
            trial 0 5
            survey 0 = 0
            thing 0 0 5 5 50
            survey 0 = State
            survey 1 = State
            ask 0 0 5 5 300 3 0 9
            start 0
            trial 0 5
            survey 1 = 0
            """);
        sentence("promise 8", "its record is the truth then, 0 off", """
            street 9 3 0 -1
            thing 0 0 3 5 50
            record 0 0 1 3
            trial 0 4
            survey 0 = 5
            metre 0 2 0 = 0
            metre 0 3 0 = 1
            metre 0 5 0 = 1
            metre 0 6 0 = 0
            survey 0 = 3
            """);
        sentence("promise 8", "how many metres were suspect by its record; 0 without one", """
            street 9 3 0 -1
            thing 0 0 3 5 50
            trial 0 4
            survey 0 = 0
            lose 0 = 1
            survey 0 = 0
            record 0 0 8 3
            survey 0 = 9
            """);
    }

    private static void trials() {
        sentence("promise 9", "Returns how many things truly lie there", """
            street 9 3 0 -1
            trial 0 4 = 0
            thing 0 0 4 4 10
            trial 0 4 = 1
            thing 1 0 3 5 300
            record 1 7 7 0
            trial 0 4 = 2
            trial 0 5 = 1
            trial 0 7 = 0
            trial 0 -1 = Index
            trial 0 0 = 0
            trial 0 8 = 0
            trial 0 9 = Index
            trial -1 0 = Index
            trial 1 0 = Index
            money 0 = 0
            """);
    }

    private static void searches() {
        sentence("promise 31", "the set of things by whose records a metre from there to there is suspect, as bits", """
            street 9 3 0 -1
            street 9 3 0 -1
            thing 0 0 0 0 50
            thing 0 1 0 0 50
            thing 0 0 0 0 50
            record 0 4 5 1 = 4
            record 1 4 5 1 = 4
            record 2 6 6 0 = 1
            search 0 0 2 = 0
            search 0 0 3 = 1
            search 0 3 3 = 1
            search 0 5 5 = 1
            search 0 6 6 = 5
            search 0 6 8 = 5
            search 0 7 8 = 0
            search 0 0 8 = 5
            search 1 0 8 = 2
            """);
        sentence("promise 31", "there is no such street or metre; to is ahead of from", """
            street 9 3 0 -1
            search 0 -1 8 = Index
            search 0 0 8 = 0
            search 0 0 9 = Index
            search 0 9 9 = Index
            search 0 5 4 = Argument
            search 0 5 5 = 0
            search 0 9 4 = Index
            search 1 5 4 = Index
            """);
    }

    private static void whatIsToldOfMetres() {
        sentence("promise 30", "what: 0 to 3", """
            street 9 3 0 -1
            ask 0 0 0 8 50 3 0 9
            ask 0 0 0 8 50 3 0 9
            start 1
            thing 0 0 8 8 50
            open 1 4
            fill 1 4 90
            open 1 4
            record 0 4 4 0
            metre 0 4 -1 = Argument
            metre 0 4 0 = 1
            metre 0 4 1 = 1
            metre 0 4 2 = 1
            metre 0 4 3 = 1
            metre 0 4 4 = Argument
            metre 0 5 0 = 0
            metre 0 5 1 = 0
            metre 0 5 2 = -1
            metre 0 5 3 = 0
            fill 1 4 90
            metre 0 4 2 = -1
            metre 0 4 3 = 2
            """);
    }
}
