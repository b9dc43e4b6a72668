import java.io.IOException;
import java.nio.file.Files;
import java.nio.file.Path;
import java.util.TreeMap;
import java.util.function.Consumer;

/**
 * The document's sentences, each with what is due by it. A test begins with
 * says(promise, sentence), where the sentence stands word for word under that
 * promise or, else, among the terms; and at the end each word of both must
 * have been quoted, so that no sentence is left without a test.
 */
final class Sentences {
    private static final Path DOCUMENT = Path.of("../shared/DOC.md");
    private static final int TERMS = 0;

    private final TreeMap<Integer, String> texts = new TreeMap<>();
    private final TreeMap<Integer, boolean[]> quoted = new TreeMap<>();
    private int promise;
    private String sentence;
    private int tests;
    private int answers;
    private int wrong;

    Sentences() throws IOException {
        String document = Files.readString(DOCUMENT).replaceAll("```(text)?", " ").replaceAll("\\s+", " ");
        keep(TERMS, between(document, "## What it is", "## The public face") + " "
                + between(document, "## Terms", "Ahead of the calls"));
        for (int p = 1; p <= 30; p++) {
            String next = p < 30 ? "## Promise " + (p + 1) + ":" : "## Not promised";
            String section = between(document, "## Promise " + p + ":", next);
            keep(p, section.substring(section.indexOf("`: ") + 3));
        }
    }

    private static String between(String document, String from, String to) {
        int start = document.indexOf(from);
        int end = document.indexOf(to, start);
        if (start < 0 || end < 0) {
            throw new IllegalStateException("the document has nothing between " + from + " and " + to);
        }
        return document.substring(start + from.length(), end);
    }

    private void keep(int place, String text) {
        texts.put(place, text);
        quoted.put(place, new boolean[text.length()]);
    }

    /** Begins the test of a sentence. */
    void says(int promise, String sentence) {
        this.promise = promise;
        this.sentence = sentence;
        tests++;
        int place = texts.get(promise).contains(sentence) ? promise : TERMS;
        int at = texts.get(place).indexOf(sentence);
        if (at < 0) {
            fault("is not in the document");
            return;
        }
        java.util.Arrays.fill(quoted.get(place), at, at + sentence.length(), true);
    }

    void due(String call, long got, long want) {
        answers++;
        if (got != want) {
            fault(call + " answered " + got + ", due is " + want);
        }
    }

    void yes(String call, boolean got) {
        due(call, got ? 1 : 0, 1);
    }

    void no(String call, boolean got) {
        due(call, got ? 1 : 0, 0);
    }

    /** After the calls a busy bench must look like one on which they were not made. */
    void changesNothing(String calls, Consumer<FitBench> refused) {
        FitBench x = Busy.bench();
        refused.accept(x);
        answers++;
        if (!Busy.look(x).equals(Busy.look(Busy.bench()))) {
            fault(calls + " changed something");
        }
    }

    private void fault(String what) {
        wrong++;
        System.out.println("promise " + promise + ", \"" + sentence + "\": " + what);
    }

    /** Whether all was as due, and each word of the document has been quoted. */
    boolean hold() {
        for (int place : texts.keySet()) {
            String text = texts.get(place);
            boolean[] seen = quoted.get(place);
            for (int from = 0; from < text.length(); from++) {
                int to = from;
                while (to < text.length() && !seen[to]) {
                    to++;
                }
                if (text.substring(from, to).matches(".*\\w.*")) {
                    wrong++;
                    System.out.println((place == TERMS ? "terms" : "promise " + place) + ": no test quotes \""
                            + text.substring(from, to) + "\"");
                }
                from = to;
            }
        }
        System.out.println(wrong == 0 ? tests + " sentences hold, by " + answers + " answers" : wrong + " faults");
        return wrong == 0;
    }

    /** Numbers beyond the ends: next to them, far off, and those that would be within if bits were lost. */
    static int[] beyond(int least, int most) {
        return new int[] {least - 1, most + 1, least - 65536, most + 65536, least - 16777216, most + 16777216,
            Integer.MIN_VALUE, Integer.MIN_VALUE + 1, Integer.MAX_VALUE - 1, Integer.MAX_VALUE};
    }
}
