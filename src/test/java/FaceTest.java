import java.lang.reflect.Constructor;
import java.lang.reflect.Field;
import java.lang.reflect.Method;
import java.lang.reflect.Modifier;
import java.util.ArrayList;
import java.util.HashSet;
import java.util.List;
import java.util.Set;
import java.util.TreeSet;

/** The face is the document's, and no more, as rules 1 and 11 of LANGUAGE.md have it. */
public final class FaceTest {
    private static final String[] FACE = {
        "int street int int int int ISA", "int surface int IS", "int embargo int int int IA",
        "int thing int int int int int IAS", "int record int int int int IA", "boolean lose int I",
        "int survey int IS", "int trial int int I", "int ask int int int int int int int int IAS",
        "int grant int int IAS", "int refuse int IS", "int vary int int IAS", "boolean exempt int I",
        "boolean agree int int IA", "int start int IS", "int open int int IS", "int fill int int int IAS",
        "boolean plate int IS", "int extend int IS", "int stop int IS", "int pass int AS",
        "int defect int int int IA", "int core int int IS", "int liable int int int IA",
        "int liableAnew int int int IA", "int bars int I", "int meets int int IA", "int of int int IA",
        "int metre int int int IA", "int search int int int IA", "int queue int I", "int due int I",
        "long money int I", "long moneyAnew int I",
    };

    private static final String CONSTANTS = "ASKED=0 BOARD=5 COVERED=2 DONE=4 GRANTED=1 MAJOR=0 MINOR=2 NONE=-1 "
        + "QUIET=1 REFUSED=2 RUN=3 STANDARD=1 URGENT=3";

    public static void main(String[] args) throws IllegalAccessException {
        Check c = new Check();
        c.promise("the face");
        checkMethods(c);
        checkFields(c);
        Constructor<?>[] made = Trenchboard.class.getDeclaredConstructors();
        c.due("constructors", made.length, 1);
        c.due("a public one without parameters", made[0].getParameterCount() == 0 && Modifier.isPublic(made[0].getModifiers()), true);
        c.due("public and final", Trenchboard.class.getModifiers(), Modifier.PUBLIC | Modifier.FINAL);
        checkClasses(c);
        c.end("FaceTest");
    }

    private static void checkMethods(Check c) {
        Set<String> want = new TreeSet<>();
        for (String line : FACE) {
            want.add(sorted(line));
        }
        Set<String> publicNames = new HashSet<>();
        for (Method m : Trenchboard.class.getDeclaredMethods()) {
            if (Modifier.isPublic(m.getModifiers())) {
                publicNames.add(m.getName());
                if (!want.remove(sorted(told(m)))) {
                    c.say("not of the face: " + told(m));
                }
            } else if (!Modifier.isPrivate(m.getModifiers())) {
                c.say("neither public nor private: " + m.getName());
            }
        }
        if (!want.isEmpty()) {
            c.say("not there: " + want);
        }
        for (Class<?> inside : classes()) {
            for (Method m : inside.getDeclaredMethods()) {
                if (!Modifier.isPublic(m.getModifiers()) && publicNames.contains(m.getName())) {
                    c.say("has the name of a public one: " + m);
                }
                if (!Modifier.isPublic(m.getModifiers()) && m.getParameterCount() > 7) {
                    c.say("more than seven parameters: " + m);
                }
            }
        }
    }

    /** The order of the letters is that of the document's clauses, but reflection need not keep it. */
    private static String sorted(String line) {
        int cut = line.lastIndexOf(' ') + 1;
        char[] letters = line.substring(cut).toCharArray();
        java.util.Arrays.sort(letters);
        return line.substring(0, cut) + new String(letters);
    }

    private static String told(Method m) {
        StringBuilder b = new StringBuilder(m.getReturnType().getName()).append(' ').append(m.getName());
        for (Class<?> p : m.getParameterTypes()) {
            b.append(' ').append(p.getName());
        }
        b.append(' ');
        for (Class<?> e : m.getExceptionTypes()) {
            b.append(e == IndexOutOfBoundsException.class ? 'I' : e == IllegalArgumentException.class ? 'A'
                : e == IllegalStateException.class ? 'S' : '?');
        }
        return b.toString();
    }

    private static void checkFields(Check c) throws IllegalAccessException {
        Set<String> got = new TreeSet<>();
        for (Field f : Trenchboard.class.getDeclaredFields()) {
            int m = f.getModifiers();
            if (Modifier.isPublic(m)) {
                c.due(f.getName() + " is a constant", Modifier.isStatic(m) && Modifier.isFinal(m) && f.getType() == int.class, true);
                got.add(f.getName() + "=" + f.getInt(null));
            } else if (!Modifier.isPrivate(m)) {
                c.say("neither public nor private: " + f.getName());
            }
        }
        if (!String.join(" ", got).equals(CONSTANTS)) {
            c.say("constants are " + got);
        }
    }

    private static void checkClasses(Check c) {
        c.due("at most twelve classes", classes().size() <= 12, true);
        for (Class<?> inside : classes()) {
            int own = 0;
            for (Field f : inside.getDeclaredFields()) {
                if (!Modifier.isStatic(f.getModifiers())) {
                    own++;
                } else {
                    c.due(f + " is final", Modifier.isFinal(f.getModifiers()), true);
                }
            }
            c.due(inside.getName() + " has at most twenty fields", own <= 20, true);
            if (inside != Trenchboard.class) {
                c.due(inside.getName() + " is static", Modifier.isStatic(inside.getModifiers()), true);
                c.due(inside.getName() + " is not public", Modifier.isPublic(inside.getModifiers()), false);
            }
        }
    }

    private static List<Class<?>> classes() {
        List<Class<?>> all = new ArrayList<>();
        all.add(Trenchboard.class);
        for (Class<?> inside : Trenchboard.class.getDeclaredClasses()) {
            all.add(inside);
        }
        return all;
    }
}
