import java.util.ArrayList;
import java.util.HashMap;
import java.util.List;
import java.util.Map;
import java.util.Set;
import java.util.TreeSet;
import java.util.function.Consumer;
import java.util.regex.Matcher;
import java.util.regex.Pattern;

/**
 * All boundary tests: each with the number of its promise, the document's sentence that it is of, and the boundary. Holds
 * the sentences against the document too, so that none that names a boundary is left without a test.
 */
final class Edges {
    static final int PROMISES = 53;
    /** What a boundary is named by. */
    private static final Pattern NAMES = Pattern.compile("at most|at least|at first|\\d+ to -?\\d+|-\\d+ to -\\d+|\\b(?:BAD|OTHER"
        + "|NOTHING|STUCK|FULL|NONE|least|most|greatest|greater|lowest|fewer|more than|empty|cut|wrapping|modulo|first|last"
        + "|above 0|below 0|too early|no room|no such|alike|likewise|a new|refused)\\b|-100\\d");
    private static final Pattern REFUSALS = Pattern.compile("\\b(?:BAD|OTHER|NOTHING|STUCK|FULL)\\b|-1002|-1005");
    private static final Map<String, Integer> NUMBERS = Map.of("BAD", -2, "OTHER", -3, "NOTHING", -4, "STUCK", -5,
        "FULL", -6, "-1002", -2, "-1005", -5);
    /** Where NOTHING is what a SHELF holds and no refusal. */
    private static final Set<Integer> ONLY_HELD = Set.of(1, 6, 7, 52);

    private final List<String> sentences = new ArrayList<>();
    private final List<Integer> promises = new ArrayList<>();
    private final Map<Integer, Set<Integer>> refused = new HashMap<>();
    private int tests = 0;
    private int failed = 0;

    void test(int promise, String sentence, String boundary, Consumer<Edge> body) {
        Edge edge = Edge.held(body);
        tests++;
        sentences.add(flat(sentence));
        promises.add(promise);
        refused.computeIfAbsent(promise, p -> new TreeSet<>()).addAll(edge.refusals);
        if (!edge.tell("promise " + promise + ": " + boundary, sentence)) {
            failed++;
        }
    }

    private void fail(String what) {
        failed++;
        System.out.println("  WRONG " + what);
    }

    static String flat(String text) {
        return text.replaceAll("[`\\s]+", " ").strip();
    }

    /** Every sentence is the document's, and every word there that names a boundary stands in a sentence with a test. */
    void holdAgainst(String document) {
        // The names of the calls are no sentences.
        String text = flat(document.replaceAll("(?m)^(## Promise \\d+:).*$", "$1").replaceAll("(?m)^`[^`]*`: ", ""));
        boolean[] isTold = new boolean[text.length()];
        for (int k = 0; k < sentences.size(); k++) {
            int at = placeOf(text, sentences.get(k), promises.get(k));
            if (at < 0) {
                fail("promise " + promises.get(k) + ": the document has no sentence \"" + sentences.get(k) + "\"");
                continue;
            }
            java.util.Arrays.fill(isTold, at, at + sentences.get(k).length(), true);
        }
        Matcher m = NAMES.matcher(text);
        int end = text.indexOf("## Not promised");
        for (int from = text.indexOf("## Terms"); from >= 0 && m.find(from) && m.start() < end; from = m.end()) {
            if (!isTold[m.start()] || !isTold[m.end() - 1]) {
                fail("no test of: .." + text.substring(Math.max(0, m.start() - 40), Math.min(end, m.end() + 40)) + "..");
            }
        }
        for (int promise = 1; promise <= PROMISES; promise++) {
            holdRefusals(text, promise);
        }
    }

    /** The promise's own words if they are there, since promises share some; else wherever they stand. */
    private static int placeOf(String text, String sentence, int promise) {
        int own = text.indexOf(sentence, Math.max(0, text.indexOf("## Promise " + promise + ":")));
        int next = promise == PROMISES ? text.indexOf("## Not promised") : text.indexOf("## Promise " + (promise + 1) + ":");
        return own >= 0 && own < next ? own : text.indexOf(sentence);
    }

    private void holdRefusals(String text, int promise) {
        int from = text.indexOf("## Promise " + promise + ":");
        int end = promise == PROMISES ? text.indexOf("## Not promised") : text.indexOf("## Promise " + (promise + 1) + ":");
        if (from < 0 || end < 0 || !promises.contains(promise)) {
            fail("promise " + promise + " has no boundary test, or the document hasn't the promise");
            return;
        }
        Set<Integer> due = new TreeSet<>();
        Matcher m = REFUSALS.matcher(text.substring(from, end));
        while (m.find()) {
            if (!m.group().equals("NOTHING") || !ONLY_HELD.contains(promise)) {
                due.add(NUMBERS.get(m.group()));
            }
        }
        due.removeAll(refused.getOrDefault(promise, Set.of()));
        if (!due.isEmpty() && promise != PROMISES) {
            fail("promise " + promise + " has refusals without a test: " + due);
        }
    }

    void end() {
        System.out.println("EdgesTest: " + tests + " boundaries, " + failed + " wrong");
        if (failed != 0) {
            System.exit(1);
        }
    }
}
