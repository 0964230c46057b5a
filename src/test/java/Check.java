import java.util.function.LongSupplier;

/** What the tests share: answers held against what is due, refusals, and yards that are used again and again. */
final class Check {
    /**
     * CHAIN 0: 0 HAND, 1 SISTER, 2 SISTER; CHAIN 1: 3 HEAVY, 4 SLY. With YARDS 9, SPREAD 1 and WRISTS 0:
     * FORCE 12, 10, 9, 20, 13; HOLD beside nobody 8, 8, 6, 12, 4; STRENGTH 14, 22 in CHAIN 0 and 14 in CHAIN 1.
     */
    static final String FIVE = "one 0 0 8 9 0;one 0 3 6 7 2;one 0 3 5 6 1;one 1 4 9 14 3;one 1 5 8 8 0";
    static final String[] REFUSALS = {"BAD", "OTHER", "NOTHING", "STUCK", "FULL"};

    private final String name;
    private int checked = 0;
    private int wrong = 0;

    Check(String name) {
        this.name = name;
    }

    void due(int promise, String call, long got, long want) {
        checked++;
        if (got != want) {
            wrong++;
            System.out.println(name + ", promise " + promise + ": " + call + " answered " + got + ", due is " + want);
        }
    }

    /** The call answers what is due and counts one refusal of that number; EdgesTest holds that nothing else changes. */
    void refused(int promise, ThroughTheChain x, String call, LongSupplier made, int want) {
        int number = want <= -1000 ? want + 1000 : want < -6 ? -2 : want;
        int[] counts = refusals(x);
        counts[-2 - number]++;
        due(promise, call, made.getAsLong(), want);
        counted(promise, x, call, counts);
    }

    /** The call answers what is due and refuses nothing. */
    void told(int promise, ThroughTheChain x, String call, LongSupplier made, long want) {
        int[] counts = refusals(x);
        due(promise, call, made.getAsLong(), want);
        counted(promise, x, call, counts);
    }

    private void counted(int promise, ThroughTheChain x, String call, int[] counts) {
        int[] behind = refusals(x);
        for (int i = 0; i < 5; i++) {
            due(promise, "refusals " + REFUSALS[i] + " behind " + call, behind[i], counts[i]);
        }
    }

    void end() {
        System.out.println(name + ": " + checked + " checked, " + wrong + " wrong");
        if (wrong != 0) {
            System.exit(1);
        }
    }

    static ThroughTheChain five() {
        ThroughTheChain x = new ThroughTheChain();
        read(x, FIVE);
        return x;
    }

    static void feedAll(ThroughTheChain x, String text) {
        for (int i = 0; i < text.length(); i++) {
            x.feed(text.charAt(i));
        }
    }

    static int read(ThroughTheChain x, String text) {
        feedAll(x, text);
        return x.yard();
    }

    static void fill(ThroughTheChain x, int s, int sort, long... elements) {
        x.row(s, sort, elements.length);
        for (int i = 0; i < elements.length; i++) {
            x.set(s, i, elements[i]);
        }
    }

    /** The PEOPLE of a CHAIN as digits behind a 1, so that 1 is an empty CHAIN and 1342 is 3, 4, 2. */
    static int line(ThroughTheChain x, int chain) {
        int line = 1;
        for (int p = 0; p < x.chainOf(chain, -1); p++) {
            line = 10 * line + x.chainOf(chain, p);
        }
        return line;
    }

    private static int[] refusals(ThroughTheChain x) {
        int[] counts = new int[5];
        for (int i = 0; i < 5; i++) {
            counts[i] = x.status(12 + i);
        }
        return counts;
    }
}
