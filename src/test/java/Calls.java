/** Makes calls that are told as words: a name and its arguments. An exception is answered as a number. */
final class Calls {
    static final long OUT = Naive.OUT, WRONG = Naive.WRONG, STATE = Naive.STATE;
    /** An exception that the document does not name, or one that the machine throws. */
    static final long STRANGE = -1000004;

    /** As many calls an object answers as the document says. */
    static final int MOST_CALLS = 512;

    private final Trenchboard board = new Trenchboard();
    private int made;

    /** A board on which these lines, such as "street 10 3 150 -1", were called, none of which may throw. */
    static Calls of(String... lines) {
        Calls calls = new Calls();
        for (String line : lines) {
            long got = calls.call(line);
            if (got <= OUT) {
                throw new IllegalStateException("set-up: " + line + " answered " + name(got));
            }
        }
        return calls;
    }

    long call(String line) {
        String[] words = line.trim().split(" +");
        int[] a = new int[words.length - 1];
        for (int i = 0; i < a.length; i++) {
            a[i] = Integer.parseInt(words[i + 1]);
        }
        made++;
        if (made > MOST_CALLS) {
            throw new IllegalStateException("more calls than an object has: " + line);
        }
        return answer(board, words[0], a);
    }

    static String name(long answer) {
        return answer == OUT ? "IndexOutOfBoundsException" : answer == WRONG ? "IllegalArgumentException"
            : answer == STATE ? "IllegalStateException" : answer == STRANGE ? "an exception that is not due" : "" + answer;
    }

    static long answer(Trenchboard board, String call, int... a) {
        try {
            return make(board, call, a);
        } catch (RuntimeException e) {
            return !Check.isOurs(e) ? STRANGE
                : e.getClass() == IndexOutOfBoundsException.class ? OUT
                : e.getClass() == IllegalArgumentException.class ? WRONG
                : e.getClass() == IllegalStateException.class ? STATE : STRANGE;
        }
    }

    private static long make(Trenchboard board, String call, int... a) {
        switch (call) {
            case "street": return board.street(a[0], a[1], a[2], a[3]);
            case "surface": return board.surface(a[0]);
            case "embargo": return board.embargo(a[0], a[1], a[2]);
            case "thing": return board.thing(a[0], a[1], a[2], a[3], a[4]);
            case "record": return board.record(a[0], a[1], a[2], a[3]);
            case "lose": return board.lose(a[0]) ? 1 : 0;
            case "survey": return board.survey(a[0]);
            case "trial": return board.trial(a[0], a[1]);
            case "ask": return board.ask(a[0], a[1], a[2], a[3], a[4], a[5], a[6], a[7]);
            case "grant": return board.grant(a[0], a[1]);
            case "refuse": return board.refuse(a[0]);
            case "vary": return board.vary(a[0], a[1]);
            case "exempt": return board.exempt(a[0]) ? 1 : 0;
            case "agree": return board.agree(a[0], a[1]) ? 1 : 0;
            case "start": return board.start(a[0]);
            case "open": return board.open(a[0], a[1]);
            case "fill": return board.fill(a[0], a[1], a[2]);
            case "plate": return board.plate(a[0]) ? 1 : 0;
            case "extend": return board.extend(a[0]);
            case "stop": return board.stop(a[0]);
            case "pass": return board.pass(a[0]);
            case "defect": return board.defect(a[0], a[1], a[2]);
            case "core": return board.core(a[0], a[1]);
            case "liable": return board.liable(a[0], a[1], a[2]);
            case "liableAnew": return board.liableAnew(a[0], a[1], a[2]);
            case "bars": return board.bars(a[0]);
            case "meets": return board.meets(a[0], a[1]);
            case "of": return board.of(a[0], a[1]);
            case "metre": return board.metre(a[0], a[1], a[2]);
            case "search": return board.search(a[0], a[1], a[2]);
            case "queue": return board.queue(a[0]);
            case "due": return board.due(a[0]);
            case "money": return board.money(a[0]);
            case "moneyAnew": return board.moneyAnew(a[0]);
            default: throw new UnsupportedOperationException(call);
        }
    }
}
