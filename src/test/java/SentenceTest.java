import java.io.IOException;
import java.lang.reflect.Method;
import java.nio.file.Files;
import java.nio.file.Path;
import java.util.ArrayList;
import java.util.HashMap;
import java.util.List;
import java.util.Map;

/**
 * Each test of the edges quotes words that stand in the document under the promise that it names,
 * and each sentence of the document, from its first line on, has a test that quotes it.
 */
public final class SentenceTest {
    private static final Class<?>[] TESTS = {
        TermsTest.class, FollowEdgesTest.class, EntryEdgesTest.class, SettingEdgesTest.class,
        TimelineEdgesTest.class, EffectTest.class,
    };

    // The face is FaceTest's; what is not promised has no tests.
    private static final List<String> READ_ELSEWHERE = List.of("## The public face", "## Not promised");

    private static final Map<Integer, List<String>> SENTENCES = new HashMap<>();
    private static final Map<Integer, List<String>> QUOTED = new HashMap<>();

    public static void main(String[] args) throws IOException {
        readDocument(Path.of("../shared/DOC.md"));
        readTests();
        for (int promise = 0; promise <= 25; promise++) {
            compare(promise);
        }
        Check.end();
    }

    private static void compare(int promise) {
        List<String> sentences = SENTENCES.getOrDefault(promise, List.of());
        List<String> quoted = QUOTED.getOrDefault(promise, List.of());
        Check.due("sentences of promise " + promise, sentences.isEmpty() ? "none" : "some", "some");
        for (String words : quoted) {
            boolean stands = sentences.stream().anyMatch(sentence -> sentence.contains(words));
            Check.due("promise " + promise + ", words of a test: " + words, stands, true);
        }
        for (String sentence : sentences) {
            for (String part : parts(sentence)) {
                boolean tested = quoted.stream().anyMatch(words -> part.contains(words) || words.contains(part));
                Check.due("promise " + promise + ", has a test: " + part, tested, true);
            }
        }
    }

    // A sentence may tell several things at once; each of them needs a test.
    private static List<String> parts(String sentence) {
        if (sentence.startsWith("A timeline service: ")) {
            return List.of(sentence.replace(".", "").split("[:;,] (and )?"));
        }
        if (sentence.startsWith("Throws ")) {
            return List.of(sentence.split(", (or )?"));
        }
        List<String> parts = new ArrayList<>(List.of(sentence.split("; (and )?")));
        parts.removeIf(part -> part.endsWith(" is free."));
        return parts;
    }

    private static void readTests() {
        for (Class<?> tests : TESTS) {
            for (Method method : tests.getDeclaredMethods()) {
                About about = method.getAnnotation(About.class);
                if (about != null) {
                    put(QUOTED, about.promise(), about.words());
                }
            }
        }
    }

    // Under a promise each line is a sentence; the terms stand in paragraphs of several ones.
    private static void readDocument(Path document) throws IOException {
        String heading = "";
        for (String line : Files.readAllLines(document)) {
            if (line.startsWith("#")) {
                heading = line;
            } else if (heading.startsWith("## Promise ") && !line.isBlank()) {
                put(SENTENCES, Integer.parseInt(heading.replaceAll("\\D", "")), line);
            } else if (heading.equals("## What it is") || heading.equals("## Terms")) {
                readTerms(line);
            } else if (!line.isBlank() && !heading.equals("# Followrow")) {
                Check.due("a section that is read: " + heading, READ_ELSEWHERE.contains(heading), true);
            }
        }
    }

    private static void readTerms(String paragraph) {
        for (String sentence : paragraph.split("(?<=[.)])\\s+(?=[A-Z(])")) {
            // "Rows." and "Timelines." are titles; the interface's headlines promise nothing.
            if (sentence.contains(" ") && !sentence.startsWith("Ahead of the calls")) {
                put(SENTENCES, 0, sentence);
            }
        }
    }

    private static void put(Map<Integer, List<String>> texts, int promise, String text) {
        texts.computeIfAbsent(promise, key -> new ArrayList<>()).add(text);
    }
}
