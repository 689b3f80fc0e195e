import java.util.ArrayList;
import java.util.HashMap;
import java.util.List;
import java.util.Map;

/** One sentence of the document that names an edge, quoted, with the test of it. */
final class Edge {
    private static final Map<Integer, List<String>> QUOTED = new HashMap<>();
    private static int promise;

    private Edge() {
    }

    static void of(int number, String words, Runnable test) {
        promise = number;
        QUOTED.computeIfAbsent(number, one -> new ArrayList<>()).add(words);
        Due.holds("the document says under " + number + ": " + words,
            !Document.isThere() || Document.section(number).contains(words));
        int before = Due.asked();
        test.run();
        Due.holds("something is asked for: " + words, Due.asked() > before);
    }

    static void is(long got, long want) {
        Due.is(promise, got, want);
    }

    /** Every number of the document stands in a sentence that has its test. */
    static void noneLeftOut() {
        for (int number = Document.WHAT; number <= Document.LAST && Document.isThere(); number++) {
            String rest = Document.unquoted(number, QUOTED.getOrDefault(number, List.of()));
            Due.holds("all numbers under " + number + " are tested: " + rest, !rest.matches(".*[0-9].*"));
            Due.holds("something under " + number + " is tested", QUOTED.containsKey(number));
        }
    }
}
