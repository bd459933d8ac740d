import java.io.IOException;
import java.lang.reflect.Method;
import java.lang.reflect.Modifier;
import java.nio.file.DirectoryStream;
import java.nio.file.Files;
import java.nio.file.Path;
import java.util.Set;
import java.util.TreeSet;
import java.util.regex.Matcher;
import java.util.regex.Pattern;

/** That the calls, classes and tests that README.md names are those that there are. (Its examples: ReadmeExamples.) */
public final class ReadmeTest {
    private static final Path TESTS = Path.of("src/test/java");

    public static void main(String[] args) throws IOException {
        String readme = Files.readString(Path.of("README.md"));
        theCallsAreThoseOfTheFace(readme);
        theNamesAreThoseOfClasses(readme);
        theConstants(readme);
        Due.is("it says how to run the tests", readme.contains("```sh\n.ci/run\n```"), true);
        Due.is(".ci/run can be run", Files.isExecutable(Path.of(".ci/run")), true);
        Due.end();
    }

    private static void theCallsAreThoseOfTheFace(String readme) {
        Set<String> due = new TreeSet<>();
        for (Method m : TokenBus.class.getDeclaredMethods()) {
            if (Modifier.isPublic(m.getModifiers())) {
                due.add(m.getName() + " of " + m.getParameterCount());
            }
        }
        Set<String> told = new TreeSet<>();
        Matcher row = Pattern.compile("^\\| `(\\w+)\\((.*?)\\)` \\|", Pattern.MULTILINE).matcher(readme);
        while (row.find()) {
            int takes = row.group(2).isEmpty() ? 0 : row.group(2).split(", ").length;
            told.add(row.group(1) + " of " + takes);
        }
        same("the calls that README.md tells of", told, due);
    }

    /** The tests of the promises are too many to be named one by one: their names say which promise. */
    private static void theNamesAreThoseOfClasses(String readme) throws IOException {
        Set<String> due = new TreeSet<>();
        due.add("TokenBus");
        for (Class<?> inside : TokenBus.class.getDeclaredClasses()) {
            due.add(inside.getSimpleName());
        }
        try (DirectoryStream<Path> files = Files.newDirectoryStream(TESTS, "*.java")) {
            for (Path file : files) {
                String name = file.getFileName().toString().replace(".java", "");
                if (!name.matches("Promise[0-9].*Test")) {
                    due.add(name);
                }
            }
        }
        Set<String> told = new TreeSet<>();
        Matcher name = Pattern.compile("`([A-Z]\\w*[a-z]\\w*)`").matcher(readme);
        while (name.find()) {
            told.add(name.group(1));
        }
        same("the classes that README.md names", told, due);
    }

    private static void theConstants(String readme) {
        Due.is("REFUSED", readme.contains("`REFUSED` (" + TokenBus.REFUSED + ","), true);
        Due.is("FULL", readme.contains("`FULL` (" + TokenBus.FULL + ","), true);
    }

    private static void same(String name, Set<String> told, Set<String> due) {
        Set<String> missing = new TreeSet<>(due);
        missing.removeAll(told);
        Set<String> wrong = new TreeSet<>(told);
        wrong.removeAll(due);
        Due.is(name + ", missing " + missing, missing.size(), 0);
        Due.is(name + ", wrong " + wrong, wrong.size(), 0);
    }
}
