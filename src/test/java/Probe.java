import java.util.ArrayList;
import java.util.List;

/**
 * Tells whether two boards are alike: what is asked is asked of both, and then both go on in ways that show what can't
 * be asked, as the hour, the day on which works were asked for, faults, or in what order all was told. A way makes
 * fewer calls than an object has left, so each way is gone by boards of its own.
 */
final class Probe {
    /** Room for the set-up and the call that is looked at. */
    static final int MOST_CALLS = Calls.MOST_CALLS - 130;

    private Probe() {
    }

    static List<List<String>> ways() {
        List<List<String>> ways = new ArrayList<>();
        ways.add(works());
        ways.add(meetings());
        ways.add(metres());
        ways.add(ground());
        ways.add(hours());
        ways.add(fills());
        ways.add(calendar());
        for (List<String> way : ways) {
            if (way.size() > MOST_CALLS) {
                throw new IllegalStateException("a way of " + way.size() + " calls");
            }
        }
        return ways;
    }

    /** The answers of a board to all calls of a way, one behind the other. */
    static String answers(Calls board, List<String> way) {
        StringBuilder b = new StringBuilder();
        for (String line : way) {
            b.append(line).append(": ").append(Calls.name(board.call(line))).append('\n');
        }
        return b.toString();
    }

    private static void accounts(List<String> way) {
        for (int who = 0; who <= 5; who++) {
            way.add("money " + who);
            way.add("moneyAnew " + who);
            way.add("due " + who);
            way.add("queue " + who);
        }
    }

    private static List<String> works() {
        List<String> way = new ArrayList<>();
        for (int w = 0; w < 24; w++) {
            for (int what = 0; what <= 7; what++) {
                way.add("of " + w + " " + what);
            }
            way.add("bars " + w);
        }
        accounts(way);
        return way;
    }

    private static List<String> meetings() {
        List<String> way = new ArrayList<>();
        for (int w = 0; w < 16; w++) {
            for (int from = 0; from < 16; from++) {
                way.add("meets " + w + " " + from);
            }
        }
        return way;
    }

    private static List<String> metres() {
        List<String> way = new ArrayList<>();
        for (int s = 0; s < 3; s++) {
            for (int m = 0; m < 9; m++) {
                for (int what = 0; what <= 3; what++) {
                    way.add("metre " + s + " " + m + " " + what);
                }
                way.add("search " + s + " " + m + " " + m);
                way.add("search " + s + " 0 " + m);
                for (int depth : new int[] {5, 10, 60, 121}) {
                    way.add("liable " + s + " " + m + " " + depth);
                    way.add("liableAnew " + s + " " + m + " " + depth);
                }
            }
        }
        return way.subList(0, Math.min(way.size(), MOST_CALLS));
    }

    /** Things: where they truly lie, their records, and how many numbers are left. */
    private static List<String> ground() {
        List<String> way = new ArrayList<>();
        for (int t = 0; t < 6; t++) {
            way.add("survey " + t);
        }
        for (int s = 0; s < 3; s++) {
            for (int m = 0; m < 9; m++) {
                way.add("trial " + s + " " + m);
            }
        }
        for (int t = 0; t < 6; t++) {
            way.add("survey " + t);
            way.add("survey " + t);
            way.add("lose " + t);
            way.add("lose " + t);
        }
        for (int i = 0; i < 31; i++) {
            way.add("thing " + i % 5 + " 0 0 7 10");
        }
        for (int i = 0; i < 7; i++) {
            way.add("street 3 1 50 " + (i - 1));
        }
        for (int i = 0; i < 25; i++) {
            way.add("ask " + i % 5 + " 0 7 7 10 3 999 1");
        }
        for (int s = 0; s < 6; s++) {
            way.add("surface " + s);
            way.add("embargo " + s + " 0 999");
        }
        accounts(way);
        return way;
    }

    /** Days go by, and works go on. */
    private static List<String> hours() {
        List<String> way = new ArrayList<>();
        for (int day = 0; day < 7; day++) {
            way.add("pass " + (day == 0 ? 1 : 24));
            for (int w = 0; w < 14; w++) {
                way.add("of " + w + " 0");
            }
            for (int who = 0; who <= 5; who++) {
                way.add("money " + who);
            }
            for (int s = 0; s < 3; s++) {
                way.add("queue " + s);
            }
        }
        for (int w = 0; w < 14; w++) {
            way.add("start " + w);
            way.add("plate " + w);
            way.add("vary " + w + " 3");
            way.add("extend " + w);
        }
        way.add("pass 24");
        for (int w = 0; w < 14; w++) {
            way.add("plate " + w);
            way.add("stop " + w);
        }
        way.add("pass 10");
        accounts(way);
        return way;
    }

    /** Cores, and so many fills for each promoter that each fault shows in what is due. */
    private static List<String> fills() {
        List<String> way = new ArrayList<>();
        for (int s = 0; s < 3; s++) {
            for (int m = 0; m < 8; m++) {
                way.add("core " + s + " " + m);
            }
        }
        // The last metre of street 2, in which no set-up has things or open metres.
        for (int promoter = 0; promoter < 5; promoter++) {
            way.add("ask " + promoter + " 2 4 4 10 3 " + RefusedTest.TODAY + " 1");
        }
        for (int promoter = 0; promoter < 5; promoter++) {
            int w = RefusedTest.WORKS + promoter;
            way.add("start " + w);
            for (int i = 0; i < 20; i++) {
                way.add("open " + w + " 4");
                way.add("fill " + w + " 4 90");
            }
            way.add("due " + promoter);
        }
        accounts(way);
        way.add("defect 0 6 5");
        return way;
    }

    /** Embargoes and new surfaces, as they bar works of a day; then far on. */
    private static List<String> calendar() {
        List<String> way = new ArrayList<>();
        for (int i = 0; i < 12; i++) {
            int s = i % 3;
            int day = i < 3 ? 60 : i < 6 ? 99 : i < 9 ? 110 : 250;
            int w = RefusedTest.WORKS + i;
            way.add("ask 0 " + s + " 0 0 10 0 " + day + " 1");
            way.add("bars " + w);
            way.add("exempt " + w);
            way.add("bars " + w);
        }
        for (int i = 0; i < 24; i++) {
            way.add("pass 200");
        }
        for (int i = 0; i < 49; i++) {
            way.add(i % 4 == 0 ? "liable 0 6 5" : i % 4 == 1 ? "liable 0 6 60" : i % 4 == 2 ? "liable 0 7 121" : "pass 24");
        }
        accounts(way);
        return way;
    }
}
