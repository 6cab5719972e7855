/**
 * Runs a text of calls, a line each, on a new object, and tells the answers that are not due:
 * <pre>
 *   street 5 3 100 -1 = 0       answers 0
 *   street 5 3 100 6 = Index    throws IndexOutOfBoundsException; Argument and State are the others
 *   trial 0 0                   does not throw
 *   20 x open 0 0               is made 20 times, and never throws
 *   to 48                       passes up to the hour 48
 * </pre>
 */
final class Script {
    private final Check check;
    private final Calls board = new Calls();
    private long hour;

    private Script(Check check) {
        this.check = check;
    }

    /** A text of its own for each sentence of the document, which is told with what is not due. */
    static void sentence(Check check, String promise, String sentence, String text) {
        check.promise(promise + ", \"" + sentence + "\"");
        run(check, text);
    }

    static void run(Check check, String text) {
        Script script = new Script(check);
        for (String line : text.split("\n")) {
            if (!line.isBlank()) {
                script.line(line.strip());
            }
        }
    }

    private void line(String line) {
        if (line.startsWith("to ")) {
            passTo(Integer.parseInt(line.substring(3)));
            return;
        }
        String[] sides = line.split(" = ");
        int cross = sides[0].indexOf(" x ");
        int times = cross < 0 ? 1 : Integer.parseInt(sides[0].substring(0, cross));
        String call = cross < 0 ? sides[0] : sides[0].substring(cross + 3);
        for (int i = 0; i < times; i++) {
            long got = made(call);
            boolean right = sides.length > 1 ? Calls.name(got).equals(due(sides[1])) : got > Calls.OUT;
            if (!right) {
                check.say("hour " + hour + ", " + call + " answered " + Calls.name(got) + ", due is "
                    + (sides.length > 1 ? due(sides[1]) : "no exception"));
            }
        }
    }

    private long made(String call) {
        long got = board.call(call);
        if (call.startsWith("pass ") && got > Calls.OUT) {
            hour = got;
        }
        return got;
    }

    private void passTo(int target) {
        if (target <= hour) {
            throw new IllegalStateException("it is the hour " + hour + " already, not " + target);
        }
        while (hour < target) {
            line("pass " + Math.min(200, target - hour));
        }
    }

    private static String due(String word) {
        return word.equals("Index") ? "IndexOutOfBoundsException" : word.equals("Argument") ? "IllegalArgumentException"
            : word.equals("State") ? "IllegalStateException" : word;
    }
}
