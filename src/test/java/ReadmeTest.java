import java.io.IOException;
import java.lang.reflect.Method;
import java.lang.reflect.Modifier;
import java.net.URL;
import java.net.URLClassLoader;
import java.nio.file.Files;
import java.nio.file.Path;
import java.util.ArrayList;
import java.util.Comparator;
import java.util.List;
import java.util.regex.Matcher;
import java.util.regex.Pattern;
import java.util.stream.Stream;

/**
 * README.md shows each call of the face, and the answers beside its calls are those that the
 * program gives; it names the tests, and the one way to run them all.
 */
public final class ReadmeTest {
    private static final Path README = Path.of("README.md");
    private static final Path TESTS = Path.of("src/test/java");
    private static final Pattern TOLD = Pattern.compile("(.*;) *// (answers|throws) ([-\\w]+)(:.*)?");
    private static final Pattern VARIABLE = Pattern.compile("(int|boolean) (\\w+) = .*");

    public static void main(String[] args) throws IOException, ReflectiveOperationException {
        List<String> shown = shownLines();
        answersHold(shown);
        eachCallIsShown(shown);
        eachTestIsNamed();
        Check.end();
    }

    private static List<String> shownLines() throws IOException {
        List<String> shown = new ArrayList<>();
        boolean inBlock = false;
        for (String line : Files.readAllLines(README)) {
            if (line.startsWith("```")) {
                inBlock = line.equals("```java");
            } else if (inBlock) {
                shown.add(line);
            }
        }
        return shown;
    }

    // ---- the run that is shown, compiled and run as it stands

    private static void answersHold(List<String> shown) throws IOException, ReflectiveOperationException {
        List<String> calls = new ArrayList<>();
        List<String> due = new ArrayList<>();
        StringBuilder body = new StringBuilder();
        for (String line : shown) {
            Matcher told = TOLD.matcher(line);
            if (told.matches()) {
                calls.add(told.group(1));
                due.add(told.group(2).equals("throws") ? "throws." + told.group(3) : told.group(3));
                body.append(asked(told.group(1)));
            } else {
                body.append(line).append('\n');
            }
        }
        Check.due("answers that are told", due.size() > 24, true);
        List<?> got = run(body.toString());
        Check.due("answers that were given", got.size(), due.size());
        for (int i = 0; i < Math.min(got.size(), due.size()); i++) {
            Check.due("README.md, call " + (i + 1) + ": " + calls.get(i), got.get(i), due.get(i));
        }
    }

    // A variable keeps standing where it is shown, so that later lines can use it.
    private static String asked(String statement) {
        Matcher variable = VARIABLE.matcher(statement);
        if (variable.matches()) {
            return statement + " got.add(String.valueOf(" + variable.group(2) + "));\n";
        }
        String call = statement.substring(0, statement.length() - 1);
        return "try { got.add(String.valueOf(" + call + ")); } catch (RuntimeException e)"
                + " { got.add(\"throws.\" + e.getClass().getSimpleName()); }\n";
    }

    private static List<?> run(String body) throws IOException, ReflectiveOperationException {
        Path folder = Files.createTempDirectory("readme");
        try {
            Files.writeString(folder.resolve("Shown.java"), "public final class Shown {\n"
                    + "public static java.util.List<String> run() {\n"
                    + "java.util.List<String> got = new java.util.ArrayList<>();\n"
                    + body + "return got;\n}\n}\n");
            boolean compiled = compile(folder);
            Check.due("README.md compiles", compiled, true);
            return compiled ? call(folder) : List.of();
        } finally {
            remove(folder);
        }
    }

    private static boolean compile(Path folder) throws IOException {
        Process javac = new ProcessBuilder("javac", "-encoding", "UTF-8", "-classpath",
                Path.of(System.getProperty("java.class.path")).toAbsolutePath().toString(),
                "-d", ".", "Shown.java").directory(folder.toFile()).inheritIO().start();
        try {
            return javac.waitFor() == 0;
        } catch (InterruptedException e) {
            return false;
        }
    }

    private static List<?> call(Path folder) throws IOException, ReflectiveOperationException {
        URL[] urls = {folder.toUri().toURL()};
        try (URLClassLoader loader = new URLClassLoader(urls, ReadmeTest.class.getClassLoader())) {
            Method run = loader.loadClass("Shown").getMethod("run");
            return (List<?>) run.invoke(null);
        }
    }

    private static void remove(Path folder) throws IOException {
        try (Stream<Path> files = Files.walk(folder)) {
            for (Path file : files.sorted(Comparator.reverseOrder()).toList()) {
                Files.delete(file);
            }
        }
    }

    // ---- what is shown and named

    private static void eachCallIsShown(List<String> shown) {
        for (Method method : Followrow.class.getDeclaredMethods()) {
            if (Modifier.isPublic(method.getModifiers())) {
                String call = "x." + method.getName() + "(";
                boolean told = shown.stream().anyMatch(
                        line -> line.contains(call) && TOLD.matcher(line).matches());
                Check.due("shown: " + call, told, true);
            }
        }
    }

    private static void eachTestIsNamed() throws IOException {
        String readme = Files.readString(README);
        Check.due("the way to run the tests", readme.contains("\n    bash .ci/run\n"), true);
        Check.due("what it names can be run", Files.isExecutable(Path.of(".ci/run")), true);
        try (Stream<Path> files = Files.list(TESTS)) {
            for (Path file : files.sorted().toList()) {
                String name = file.getFileName().toString();
                // .ci/run runs the files whose names end so.
                boolean test = name.endsWith("Test.java");
                Check.due(name + " has a main", Files.readString(file).contains(" void main("), test);
                Check.due(name + " is named", !test || readme.contains(name + "`"), true);
            }
        }
        Matcher named = Pattern.compile("[`/](\\w+\\.java)`").matcher(readme);
        while (named.find()) {
            boolean there = named.group(1).equals("Followrow.java")
                    || Files.exists(TESTS.resolve(named.group(1)));
            Check.due(named.group(1) + " is there", there, true);
        }
    }
}
