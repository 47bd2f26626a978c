import java.io.File;
import java.lang.reflect.Method;
import java.lang.reflect.Modifier;
import java.net.URL;
import java.net.URLClassLoader;
import java.nio.file.Files;
import java.nio.file.Path;
import java.util.ArrayList;
import java.util.List;
import java.util.Set;
import java.util.TreeSet;
import java.util.regex.Matcher;
import java.util.regex.Pattern;

/** What README.md shows is so: its Java compiles, each answer shown is the one given, each call and test is named. */
public final class ReadmeTest {

    private static final Pattern BLOCK = Pattern.compile("(?s)```java\n(.*?)```");
    /** A call with its answer behind it: storm.call(..); // number (NAME): words. */
    private static final Pattern SHOWN =
        Pattern.compile("(storm\\.\\w+\\(.*\\)); +// (-?\\d+)(?: \\((BAD|NO|FULL|NONE)\\))?: .+");
    private static final int ANSWERS_AT_LEAST = 25;

    private final List<String> calls = new ArrayList<>();
    private final List<Long> answers = new ArrayList<>();
    private final StringBuilder functions = new StringBuilder();
    private final StringBuilder statements = new StringBuilder();

    public static void main(String[] args) throws Exception {
        String page = Files.readString(Path.of("README.md"));
        new ReadmeTest().shownIsSo(page);
        eachCallIsNamed(page);
        eachTestIsNamed(page);
        howTestsAreRun(page);
        Check.end();
    }

    private void shownIsSo(String page) throws Exception {
        Matcher block = BLOCK.matcher(page);
        while (block.find()) {
            if (block.group(1).startsWith("static ")) {
                functions.append(block.group(1));
            } else {
                take(block.group(1));
            }
        }
        Check.dueThat("README.md shows answers: " + calls.size(), calls.size() >= ANSWERS_AT_LEAST);
        List<?> given = run();
        Check.due("how many calls of README.md answered", given.size(), calls.size());
        for (int k = 0; k < given.size(); k++) {
            Check.due("README.md: " + calls.get(k), (Long) given.get(k), answers.get(k));
        }
    }

    /** A block of statements: a call whose answer is shown is asked for it, all else is taken as it stands. */
    private void take(String block) {
        statements.append("{\n");
        for (String line : block.split("\n")) {
            Matcher shown = SHOWN.matcher(line);
            if (shown.matches()) {
                calls.add(shown.group(1));
                answers.add(Long.parseLong(shown.group(2)));
                statements.append("answers.add((long) ").append(shown.group(1)).append(");\n");
                Check.dueThat("a name behind each answer below 0 and no other: " + line,
                    nameOf(Long.parseLong(shown.group(2))).equals(String.valueOf(shown.group(3))));
            } else {
                Check.dueThat("an answer is shown: " + line, !line.contains("//") && !line.startsWith("storm."));
                statements.append(line).append("\n");
            }
        }
        statements.append("}\n");
    }

    private static String nameOf(long answer) {
        String[] names = {"NONE", "FULL", "NO", "BAD"};
        return answer >= -4 && answer < 0 ? names[(int) answer + 4] : "null";
    }

    private List<?> run() throws Exception {
        Path place = Files.createTempDirectory("readme");
        Path source = place.resolve("Shown.java");
        Files.writeString(source, "public final class Shown {\n" + functions
            + "public static java.util.List<Long> answers() {\njava.util.List<Long> answers = new java.util.ArrayList<>();\n"
            + statements + "return answers;\n}\n}\n");
        int refused = new ProcessBuilder("javac", "-cp", System.getProperty("java.class.path"), "-d", place.toString(),
            source.toString()).inheritIO().start().waitFor();
        Check.due("javac of what README.md shows", refused, 0);
        List<?> given = List.of();
        if (refused == 0) {
            try (URLClassLoader loader = new URLClassLoader(new URL[] {place.toUri().toURL()})) {
                given = (List<?>) loader.loadClass("Shown").getMethod("answers").invoke(null);
            }
        }
        for (File made : place.toFile().listFiles()) {
            Files.delete(made.toPath());
        }
        Files.delete(place);
        return given;
    }

    private static void eachCallIsNamed(String page) {
        for (Method m : HungInStorm.class.getDeclaredMethods()) {
            if (Modifier.isPublic(m.getModifiers())) {
                Check.dueThat("README.md names " + m.getName(), page.contains("`" + m.getName() + "`"));
            }
        }
    }

    private static void eachTestIsNamed(String page) {
        Set<String> named = new TreeSet<>();
        Matcher row = Pattern.compile("(?m)^\\| `(\\w+Test)` \\|").matcher(page);
        while (row.find()) {
            named.add(row.group(1) + ".java");
        }
        Set<String> there = new TreeSet<>();
        for (String name : new File("src/test/java").list()) {
            if (name.endsWith("Test.java")) {
                there.add(name);
            }
        }
        Check.dueThat("README.md names " + named + ", there are " + there, named.equals(there));
    }

    private static void howTestsAreRun(String page) throws Exception {
        Check.dueThat("README.md tells .ci/run", page.contains("```\n.ci/run\n```"));
        Check.dueThat(".ci/run can be run", Files.isExecutable(Path.of(".ci/run")));
        String script = Files.readString(Path.of(".ci/run"));
        Check.dueThat("it runs both kinds of tests and builds to build/", script.contains("tests=src/test/java\n")
            && script.contains("shared=../shared/tests\n") && script.contains("out=build\n"));
    }
}
