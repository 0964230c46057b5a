import java.util.ArrayList;
import java.util.List;

/**
 * Every call with all the numbers at and beside the document's bounds, in yards that are empty, full, OVER or none of
 * these, each answer and the refusals behind it held against the Model's.
 */
public final class SweepTest {
    private static final long[] ANY = {Integer.MIN_VALUE, -1001, -2, -1, 0, 1, 2, 3, 4, 5, 6, 7, 8, 9, 10, 11, 19, 20, 21, 29, 30, 31,
        39, 40, 41, 98, 99, 100, 249, 250, 251, 255, 256, Integer.MAX_VALUE};
    private static final long[] SHELF = {Integer.MIN_VALUE, -1, 0, 1, 2, 3, 4, 7, 8, Integer.MAX_VALUE};
    private static final long[] PLACE = {Integer.MIN_VALUE, -1, 0, 1, 2, 3, 39, 40, 41, Integer.MAX_VALUE};
    private static final long[] FEW = {Integer.MIN_VALUE, -2, -1, 0, 1, 2, 3, 5, 6, 7, 8, 9, 10, 20, 21, 40, 41, Integer.MAX_VALUE};
    private static final long[] PUT = {Long.MIN_VALUE, Integer.MIN_VALUE - 1L, -32769, -129, -1, 0, 1, 127, 128, 255, 256, 32768, 65536,
        Integer.MAX_VALUE + 1L, 1L << 32, Long.MAX_VALUE};
    private static final long[] LEVEL = {-1, 0, 20, 21};

    private static final String SHELVES = "row(0, 2, 40) fill 1 2: 5000 1000 9 row(2, 2, 0) row(7, 4, 3) ";
    private static final String[] YARDS = {"", SHELVES, YardEdges.crowd(1, 0) + SHELVES, YardEdges.crowd(1, 1) + SHELVES + "show(3, 1) ",
        JointEdges.ALONE + SHELVES + "show(3, 0) ", JointEdges.NOBODY_ELSE + SHELVES + "show(3, 0) ", YardEdges.crowd(2, 2) + SHELVES + "show(3, 3) ",
        YardEdges.FIVE + SHELVES + "show(3, 4) image() ", YardEdges.SIX + SHELVES + "show(3, 2) ask(1, 10) ", YardEdges.SIX + SHELVES + "show(3, 2) ask(4, 1) ",
        JointEdges.RUNG + SHELVES + "show(3, 5) ", YardEdges.crowd(4, 4) + SHELVES + "show(3, 7) ask(2, 1) ", YardEdges.crowd(6, 2) + SHELVES + "show(3, 0) image() ",
        YardEdges.crowd(2, 6) + SHELVES + "show(3, 7) ", YardEdges.crowd(8, 0) + SHELVES + "show(3, 7) ", YardEdges.crowd(0, 8) + SHELVES + "show(3, 7) ",
        ChoiceEdges.STRONG + SHELVES + "show(3, 3) ask(3, 2) runs(1) ", "feed '" + " ".repeat(249) + "' "};
    /** So that a call's answer mostly comes from the yard as it was told, not from what the calls ahead made of it. */
    private static final int CALLS_EACH = 40;

    private static final String[] NONE_TAKEN = {"wipe", "yard", "call", "won", "over", "pair", "tiredest", "again", "image", "back"};
    private static final String[] ONE_TAKEN = {"holds", "feed", "weakest", "strongest", "hardest", "at", "take", "worth", "leads", "game", "first",
        "together", "best", "runs", "rest", "seed", "status"};
    private static final String[] TWO_TAKEN = {"element", "show", "says", "ask", "oneOf", "chainOf", "strength", "odds", "play", "stand", "move",
        "spreadFor", "yardsFor", "swap", "could", "judge", "booked", "order"};
    private static final String[] THREE_TAKEN = {"row", "tell", "behind", "run"};

    private static int swept = 0;
    private static int wrong = 0;

    private static void sweep(String name, long[]... bounds) {
        List<long[]> all = new ArrayList<>();
        all.add(new long[0]);
        for (long[] bound : bounds) {
            List<long[]> longer = new ArrayList<>();
            for (long[] ahead : all) {
                for (long v : bound) {
                    long[] more = java.util.Arrays.copyOf(ahead, ahead.length + 1);
                    more[ahead.length] = v;
                    longer.add(more);
                }
            }
            all = longer;
        }
        for (String yard : YARDS) {
            for (int from = 0; from < all.size(); from += CALLS_EACH) {
                hold(yard, name, all.subList(from, Math.min(all.size(), from + CALLS_EACH)));
            }
        }
    }

    private static void hold(String yard, String name, List<long[]> calls) {
        Told x = new Told().make(yard);
        Told m = new Told(new Model()).make(yard);
        for (long[] numbers : calls) {
            swept++;
            long got = x.call(name, numbers);
            long due = m.call(name, numbers);
            if (got != due) {
                tell(yard, name, numbers, "answered " + got + ", due is " + due);
            }
        }
        if (!x.refusals().equals(m.refusals()) || !x.state().equals(m.state())) {
            tell(yard, name, calls.get(0), "and those behind it left another state");
        }
        x.wrong.forEach(w -> tell(yard, name, calls.get(0), w));
    }

    private static void tell(String yard, String name, long[] numbers, String what) {
        wrong++;
        System.out.println("SweepTest: " + name + java.util.Arrays.toString(numbers) + " " + what + ", behind " + yard);
    }

    public static void main(String[] args) {
        for (String name : NONE_TAKEN) sweep(name);
        for (String name : ONE_TAKEN) sweep(name, ANY);
        for (String name : TWO_TAKEN) sweep(name, ANY, FEW);
        for (String name : THREE_TAKEN) sweep(name, FEW, FEW, FEW);
        sweep("set", SHELF, PLACE, PUT);
        sweep("one", new long[] {-1, 0, 1, 2}, new long[] {-1, 0, 5, 6}, LEVEL, LEVEL, new long[] {-1, 0, 9, 10});
        sweep("copy", new long[] {-1, 0, 1, 2, 3, 4, 8}, new long[] {-1, 0, 1, 3, 4, 7, 8}, PLACE, PLACE, PLACE);
        System.out.println("SweepTest: " + swept + " calls in " + YARDS.length + " yards, " + wrong + " wrong");
        if (wrong != 0) System.exit(1);
    }
}
