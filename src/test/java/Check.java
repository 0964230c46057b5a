import java.util.ArrayList;
import java.util.List;
import java.util.function.LongSupplier;

/** What the tests share: answers held against what is due, refusals, and yards that are used again and again. */
final class Check {
    /**
     * CHAIN 0: 0 HAND, 1 SISTER, 2 SISTER; CHAIN 1: 3 HEAVY, 4 SLY. With YARDS 9, SPREAD 1 and WRISTS 0:
     * FORCE 12, 10, 9, 20, 13; HOLD beside nobody 8, 8, 6, 12, 4; STRENGTH 14, 22 in CHAIN 0 and 14 in CHAIN 1.
     */
    static final String FIVE = "one 0 0 8 9 0;one 0 3 6 7 2;one 0 3 5 6 1;one 1 4 9 14 3;one 1 5 8 8 0";
    static final String[] REFUSALS = {"BAD", "OTHER", "NOTHING", "STUCK", "FULL"};

    private final String name;
    private int checked = 0;
    private int wrong = 0;

    Check(String name) {
        this.name = name;
    }

    void due(int promise, String call, long got, long want) {
        checked++;
        if (got != want) {
            wrong++;
            System.out.println(name + ", promise " + promise + ": " + call + " answered " + got + ", due is " + want);
        }
    }

    /** The call answers what is due, counts one refusal of that number, and leaves all else as it was. */
    void refused(int promise, ThroughTheChain x, String call, LongSupplier made, int want) {
        List<Long> before = all(x);
        int number = want <= -1000 ? want + 1000 : want < -6 ? -2 : want;
        int[] counts = refusals(x);
        counts[-2 - number]++;
        due(promise, call, made.getAsLong(), want);
        for (int i = 0; i < 5; i++) {
            due(promise, "refusals " + REFUSALS[i] + " behind " + call, x.status(12 + i), counts[i]);
        }
        checked++;
        if (!before.equals(all(x))) {
            wrong++;
            System.out.println(name + ", promise " + promise + ": " + call + " was refused and changed something");
        }
    }

    /** The call answers what is due, refuses nothing, and leaves all as it was. */
    void told(int promise, ThroughTheChain x, String call, LongSupplier made, long want) {
        List<Long> before = all(x);
        int refusedBefore = java.util.Arrays.stream(refusals(x)).sum();
        due(promise, call, made.getAsLong(), want);
        checked++;
        if (!before.equals(all(x)) || refusedBefore != java.util.Arrays.stream(refusals(x)).sum()) {
            wrong++;
            System.out.println(name + ", promise " + promise + ": " + call + " changed something");
        }
    }

    void end() {
        System.out.println(name + ": " + checked + " checked, " + wrong + " wrong");
        if (wrong != 0) {
            System.exit(1);
        }
    }

    static ThroughTheChain five() {
        ThroughTheChain x = new ThroughTheChain();
        read(x, FIVE);
        return x;
    }

    static void feedAll(ThroughTheChain x, String text) {
        for (int i = 0; i < text.length(); i++) {
            x.feed(text.charAt(i));
        }
    }

    static int read(ThroughTheChain x, String text) {
        feedAll(x, text);
        return x.yard();
    }

    static void fill(ThroughTheChain x, int s, int sort, long... elements) {
        x.row(s, sort, elements.length);
        for (int i = 0; i < elements.length; i++) {
            x.set(s, i, elements[i]);
        }
    }

    /** The PEOPLE of a CHAIN as digits behind a 1, so that 1 is an empty CHAIN and 1342 is 3, 4, 2. */
    static int line(ThroughTheChain x, int chain) {
        int line = 1;
        for (int p = 0; p < x.chainOf(chain, -1); p++) {
            line = 10 * line + x.chainOf(chain, p);
        }
        return line;
    }

    private static int[] refusals(ThroughTheChain x) {
        int[] counts = new int[5];
        for (int i = 0; i < 5; i++) {
            counts[i] = x.status(12 + i);
        }
        return counts;
    }

    /** All that calls can see but the refusals. */
    private static List<Long> all(ThroughTheChain x) {
        List<Long> l = new ArrayList<>();
        for (int what = 0; what <= 10; what++) {
            l.add((long) x.status(what));
        }
        l.add((long) line(x, 0));
        l.add((long) line(x, 1));
        for (int one = 0; one < x.status(0); one++) {
            for (int what = 0; what < 8; what++) {
                l.add((long) x.oneOf(one, what));
            }
        }
        for (int s = 0; s < 8; s++) {
            l.add((long) x.holds(s));
            for (int i = 0; i < 40; i++) {
                l.add(x.element(s, i));
            }
        }
        return l;
    }
}
