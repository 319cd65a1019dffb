import java.io.IOException;
import java.lang.reflect.Method;
import java.nio.file.Files;
import java.nio.file.Path;
import java.util.ArrayList;
import java.util.LinkedHashMap;
import java.util.List;
import java.util.Map;

/**
 * Reads the document: each of its terms, and each sentence of what a call returns or throws, has a test that names it,
 * and each test names a sentence that stands there.
 */
public final class SentencesTest {
    private static final int PROMISES = 38;
    private static final List<Class<? extends Edges>> TESTS = List.of(PeopleAndRoomsEdgesTest.class,
            PinsEdgesTest.class, SpeakersEdgesTest.class, ViewsEdgesTest.class, RecordersEdgesTest.class,
            ExceptionsEdgesTest.class, ApartTest.class);
    /** The one term that no call can break. */
    private static final String NO_EDGE = "People, layers, rooms, budgets and ticks come by calls";

    /** What is said ahead of the terms, under 0 the terms, and under its number each promise. */
    private final Map<Integer, List<String>> document = new LinkedHashMap<>();
    private final Map<Integer, List<String>> named = new LinkedHashMap<>();

    public static void main(String[] args) throws IOException {
        SentencesTest test = new SentencesTest();
        test.readDocument();
        test.readTests();
        test.eachSentenceHasATest();
        test.eachTestHasASentence();
        Check.end();
    }

    private void readDocument() throws IOException {
        for (int of = -1; of <= PROMISES; of++) {
            document.put(of, new ArrayList<>());
            named.put(of, new ArrayList<>());
        }
        int of = -1;
        for (String paragraph : Files.readString(Path.of("../shared/DOC.md")).split("\n\\s*\n")) {
            if (paragraph.startsWith("## ")) {
                of = sectionOf(paragraph, of);
            } else if (!paragraph.startsWith("Ahead of the calls") && !paragraph.startsWith("```")) {
                document.get(of).addAll(sentencesOf(paragraph, of));
            }
        }
    }

    private static int sectionOf(String heading, int before) {
        if (heading.startsWith("## Promise ")) {
            return Integer.parseInt(heading.replaceAll("## Promise (\\d+):.*", "$1"));
        }
        return heading.equals("## Terms") ? 0 : -1;
    }

    private static List<String> sentencesOf(String paragraph, int of) {
        List<String> sentences = new ArrayList<>();
        String line = paragraph.replaceAll("\\s+", " ").trim();
        for (String part : of == 0 ? line.split("(?<=\\.) |; ") : new String[] {line}) {
            if (part.split(" ").length > 3 || of != 0) {
                sentences.add(part);
            }
        }
        return sentences;
    }

    private void readTests() {
        for (Class<? extends Edges> tests : TESTS) {
            for (Method test : Edges.testsOf(tests)) {
                Sentence sentence = test.getAnnotation(Sentence.class);
                named.get(sentence.of()).add(sentence.says());
            }
        }
    }

    private void eachSentenceHasATest() {
        for (Map.Entry<Integer, List<String>> section : document.entrySet()) {
            for (String sentence : section.getValue()) {
                if (isDue(sentence, section.getKey())) {
                    boolean found = named.get(section.getKey()).stream().anyMatch(sentence::contains);
                    Check.same("a test of " + section.getKey() + ": " + sentence, true, found);
                }
            }
        }
    }

    private static boolean isDue(String sentence, int of) {
        return of == 0 ? !sentence.startsWith(NO_EDGE)
                : of > 0 && (sentence.startsWith("Returns") || sentence.startsWith("Throws"));
    }

    private void eachTestHasASentence() {
        for (Map.Entry<Integer, List<String>> section : named.entrySet()) {
            for (String says : section.getValue()) {
                boolean found = document.get(section.getKey()).stream().anyMatch(s -> s.contains(says));
                Check.same("in the document at " + section.getKey() + ": " + says, true, found);
            }
        }
    }
}
