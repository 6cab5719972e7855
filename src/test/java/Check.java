/** Counts the answers that are not as due. */
final class Check {
    /** A call that may throw. */
    interface Call {
        long answer();
    }

    private int wrong;
    private String promise = "";

    void promise(String name) {
        promise = name;
    }

    void due(String call, long got, long want) {
        if (got != want) {
            say(call + " answered " + got + ", due is " + want);
        }
    }

    void due(String call, boolean got, boolean want) {
        due(call, got ? 1 : 0, want ? 1 : 0);
    }

    void out(String call, Call made) {
        thrown(call, made, IndexOutOfBoundsException.class);
    }

    void wrong(String call, Call made) {
        thrown(call, made, IllegalArgumentException.class);
    }

    void state(String call, Call made) {
        thrown(call, made, IllegalStateException.class);
    }

    private void thrown(String call, Call made, Class<?> want) {
        try {
            long got = made.answer();
            say(call + " answered " + got + ", due is " + want.getName());
        } catch (RuntimeException e) {
            if (e.getClass() != want) {
                say(call + " threw " + e + ", due is " + want.getName());
            } else if (!isOurs(e)) {
                say(call + " let the machine throw " + e);
            }
        }
    }

    /** The class throws itself: what the machine throws comes from another class, or tells of an index in numbers. */
    static boolean isOurs(RuntimeException e) {
        StackTraceElement[] trace = e.getStackTrace();
        return trace.length > 0 && trace[0].getClassName().equals("Trenchboard")
            && e.getMessage() != null && !e.getMessage().matches(".*(Index \\d|Cannot |/ by).*");
    }

    void say(String text) {
        wrong++;
        System.out.println(promise + ": " + text);
    }

    void end(String name) {
        System.out.println(name + ": " + (wrong == 0 ? "all answers are as due" : wrong + " answers are not as due"));
        if (wrong != 0) {
            System.exit(1);
        }
    }
}
