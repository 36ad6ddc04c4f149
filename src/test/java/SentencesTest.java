import java.io.IOException;
import java.lang.reflect.Method;
import java.nio.file.Files;
import java.nio.file.Path;
import java.util.BitSet;
import java.util.Map;
import java.util.TreeMap;
import java.util.regex.Matcher;
import java.util.regex.Pattern;

/**
 * That the words which tests of edges say they are of stand in the document, and that no number,
 * no answer and no other word of an edge in it is left without such a test.
 */
public final class SentencesTest {
    private static final Path DOCUMENT = Path.of("../shared/DOC.md");
    private static final int PROMISES = 29, TERMS = Says.OF_ALL;
    private static final Class<?>[] TESTS = {NightsEdgesTest.class, ActsEdgesTest.class,
        WhatComesEdgesTest.class, SeenEdgesTest.class, ChancesEdgesTest.class, KeptEdgesTest.class,
        RefusedEdgesTest.class};
    private static final Pattern EDGES = Pattern.compile("\\b(\\d+|BAD|NO|FULL|NONE|none|nothing"
        + "|empty|most|least|fewest|lowest|uppermost|first|last|latest|next|free|half|cut|rounded"
        + "|twice|fewer|more|later|ahead|behind|alone|without)\\b");

    private final Due due = new Due();
    private final Map<Integer, String> parts = new TreeMap<>();
    private final Map<Integer, BitSet> said = new TreeMap<>();

    public static void main(String[] args) throws IOException {
        if (Files.exists(DOCUMENT)) {
            new SentencesTest().run();
        } else {
            System.out.println("nothing is asked: there is no " + DOCUMENT);
        }
    }

    private void run() throws IOException {
        read(Files.readString(DOCUMENT).replaceAll("\\s+", " "));
        for (Class<?> tests : TESTS) {
            for (Method test : Edge.testsOf(tests)) {
                Says says = test.getAnnotation(Says.class);
                for (String words : says.words()) {
                    due.isTrue(test.getName() + ": the document says '" + words + "'",
                        mark(says.promise(), words) || mark(TERMS, words));
                }
            }
        }
        for (int part : parts.keySet()) {
            noEdgeIsLeft(part);
        }
        due.end();
    }

    /** The terms, from the first of the four heads on but for the face, and each promise. */
    private void read(String document) {
        String terms = document.substring(document.indexOf("======== 1 "),
            document.indexOf("Ahead of the calls "));
        keep(TERMS, terms.replaceAll("```java.*?```", " ").replaceAll("=+ \\d", " ")
            .replaceAll("## The public face", " "));
        for (int promise = 1; promise <= PROMISES; promise++) {
            int from = document.indexOf("`: ", document.indexOf("## Promise " + promise + ":"));
            keep(promise, document.substring(from + 3, document.indexOf("## ", from)));
        }
    }

    private void keep(int part, String text) {
        parts.put(part, text);
        said.put(part, new BitSet());
    }

    private boolean mark(int part, String words) {
        String text = parts.get(part);
        boolean found = false;
        for (int at = text.indexOf(words); at >= 0; at = text.indexOf(words, at + 1)) {
            said.get(part).set(at, at + words.length());
            found = true;
        }
        return found;
    }

    private void noEdgeIsLeft(int part) {
        String text = parts.get(part);
        Matcher edge = EDGES.matcher(text);
        while (edge.find()) {
            String around = text.substring(Math.max(0, edge.start() - 50),
                Math.min(text.length(), edge.end() + 30));
            due.isTrue("promise " + part + " (0: terms): a test of '" + edge.group() + "' in '.."
                + around + "..'", said.get(part).get(edge.start()));
        }
    }
}
