import java.lang.reflect.Method;
import java.lang.reflect.Modifier;
import java.net.URL;
import java.net.URLClassLoader;
import java.nio.file.Files;
import java.nio.file.Path;
import java.util.ArrayList;
import java.util.List;
import java.util.Map;
import java.util.regex.Matcher;
import java.util.regex.Pattern;

/** README.md names each call and each kind of exception, and its example answers what it says. Run where README.md is. */
public final class ReadmeTest {
    /** A variable, and behind the statement the answer that it has. */
    private static final Pattern ANSWER = Pattern.compile("\\w+ (\\w+) = .*; *// (-?\\d+)(:.*)?");

    public static void main(String[] args) throws Exception {
        Check c = new Check();
        c.promise("README.md");
        String readme = Files.readString(Path.of("README.md"));
        checkNames(c, readme);
        checkExample(c, readme);
        c.end("ReadmeTest");
    }

    private static void checkNames(Check c, String readme) {
        for (Method m : Trenchboard.class.getDeclaredMethods()) {
            if (Modifier.isPublic(m.getModifiers()) && !readme.contains("`" + m.getName() + "`")) {
                c.say("does not name " + m.getName());
            }
            for (Class<?> e : m.getExceptionTypes()) {
                if (!readme.contains("`" + e.getSimpleName() + "`")) {
                    c.say("does not name " + e);
                }
            }
        }
    }

    private static void checkExample(Check c, String readme) throws Exception {
        List<String> names = new ArrayList<>();
        List<Long> answers = new ArrayList<>();
        StringBuilder source = new StringBuilder("public final class ReadmeExample {\n"
            + "public static java.util.Map<String, Number> answers() {\n"
            + "java.util.Map<String, Number> answers = new java.util.HashMap<>();\n");
        for (String line : exampleOf(readme)) {
            source.append(line).append('\n');
            Matcher told = ANSWER.matcher(line);
            if (told.matches()) {
                source.append("answers.put(\"").append(told.group(1)).append("\", ").append(told.group(1)).append(");\n");
                names.add(told.group(1));
                answers.add(Long.parseLong(told.group(2)));
            } else if (!line.contains("new Trenchboard()")) {
                c.say("tells no answer: " + line);
            }
        }
        c.due("answers told", names.size() >= 10, true);
        Map<?, ?> got = run(c, source.append("return answers;\n}\n}\n").toString());
        for (int i = 0; got != null && i < names.size(); i++) {
            c.due(names.get(i), ((Number) got.get(names.get(i))).longValue(), answers.get(i));
        }
    }

    private static List<String> exampleOf(String readme) {
        String open = "```java\n";
        int from = readme.indexOf(open);
        int to = readme.indexOf("```", from + open.length());
        return from < 0 || to < 0 ? List.of() : readme.substring(from + open.length(), to).lines().toList();
    }

    private static Map<?, ?> run(Check c, String source) throws Exception {
        Path dir = Files.createTempDirectory("readme");
        Path file = dir.resolve("ReadmeExample.java");
        Path made = dir.resolve("ReadmeExample.class");
        try {
            Files.writeString(file, source);
            Process javac = new ProcessBuilder("javac", "-encoding", "UTF-8", "-cp", System.getProperty("java.class.path"),
                "-d", dir.toString(), file.toString()).inheritIO().start();
            if (javac.waitFor() != 0) {
                c.say("the example does not compile");
                return null;
            }
            try (URLClassLoader loader = new URLClassLoader(new URL[] {dir.toUri().toURL()})) {
                return (Map<?, ?>) loader.loadClass("ReadmeExample").getMethod("answers").invoke(null);
            }
        } finally {
            Files.deleteIfExists(file);
            Files.deleteIfExists(made);
            Files.deleteIfExists(dir);
        }
    }
}
