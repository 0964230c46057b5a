/** Promises 30 and 41 to 53: moves, BOOKS, orders, runs in truth, rests, what is kept, and the status. */
public final class TruthTest {
    private static final Check C = new Check("TruthTest");

    /** FIVE and, in CHAIN 1, 5 with no GRIP and no WEIGHT: FORCE 3. */
    private static ThroughTheChain six() {
        ThroughTheChain x = Check.five();
        x.one(1, 0, 0, 0, 0);
        return x;
    }

    private static ThroughTheChain of(String text) {
        ThroughTheChain x = new ThroughTheChain();
        Check.read(x, text);
        return x;
    }

    private static void move() {
        ThroughTheChain x = of("one 0 0 1 1 1;one 1 0 1 1 1;one 0 0 1 1 1;one 0 0 1 1 1;one 0 0 1 1 1");
        C.due(30, "move(0, 2)", x.move(0, 2), 0);
        C.due(30, "CHAIN 0", Check.line(x, 0), 12304);
        C.due(30, "move(4, 1)", x.move(4, 1), 3);
        C.due(30, "CHAIN 0", Check.line(x, 0), 12430);
        C.due(30, "move(3, 3)", x.move(3, 3), 2);
        C.due(30, "CHAIN 0", Check.line(x, 0), 12403);
        C.told(30, x, "move(2, 0) to the same PLACE", () -> x.move(2, 0), 0);
        C.told(30, x, "move(1, 0), the only one", () -> x.move(1, 0), 0);
        C.refused(30, x, "move(1, 1)", () -> x.move(1, 1), -2);
        C.refused(30, x, "move(0, 4)", () -> x.move(0, 4), -2);
        C.refused(30, x, "move(0, -1)", () -> x.move(0, -1), -2);
        C.refused(30, x, "move(5, 0)", () -> x.move(5, 0), -2);
        C.refused(30, x, "move(-1, 0)", () -> x.move(-1, 0), -2);
    }

    private static void wrong(ThroughTheChain x, int want, long... book) {
        Check.fill(x, 0, 3, book);
        C.told(41, x, "judge of " + java.util.Arrays.toString(book), () -> x.judge(0, book.length), want);
    }

    private static void judge() {
        ThroughTheChain x = six();
        wrong(x, -1);
        wrong(x, -1, 4100);
        wrong(x, -1, 3001);
        wrong(x, -1, 3002);
        // 4 comes between 1 and 2; then 0 (FORCE 12) must tear 3 from 5 (10), and CHAIN 1 has one left.
        wrong(x, -1, 4100, 1);
        wrong(x, -1, 4100, 2);
        wrong(x, 1, 4100, 0);
        wrong(x, 2, 4100, 1, 5000);
        wrong(x, 2, 4100, 1, 0);
        wrong(x, 0, 3000);
        wrong(x, 0, 4101);
        wrong(x, 0, 4102);
        wrong(x, 0, 3003);
        wrong(x, 0, 3010);
        wrong(x, 0, 3099);
        wrong(x, 0, 4200);
        wrong(x, 0, 4900);
        wrong(x, 0, 0);
        wrong(x, 0, 6000);
        wrong(x, 0, 7000);
        wrong(x, 0, 8000);
        wrong(x, 0, -1);
        wrong(x, 0, -4100);
        wrong(x, 0, Long.MIN_VALUE);
        wrong(x, 0, (1L << 32) + 4100);
        wrong(x, 0, (1L << 40) + 3001);
    }

    private static void judgeOtherwise() {
        ThroughTheChain x = six();
        x.ask(1, 4);
        wrong(x, -1, 4000);
        wrong(x, -1, 4001);
        x.ask(1, 1);
        x.ask(3, 1);
        wrong(x, 1, 4100, 1);
        Check.fill(x, 1, 1, 4100, 1, 7);
        C.told(41, x, "judge of the first 0", () -> x.judge(1, 0), -1);
        C.told(41, x, "judge of the first 1", () -> x.judge(1, 1), -1);
        // Booleans: 1 is 0 at JOINT 0, TORN, left.
        ThroughTheChain other = of("one 0 0 5 20 0;one 0 0 5 5 0;one 1 0 5 5 0;one 1 0 5 5 0");
        other.ask(4, 1);
        Check.fill(other, 0, 4, 1, 0);
        C.told(41, other, "judge of a boolean", () -> other.judge(0, 1), -1);
        x.show(2, 0);
        x.row(4, 3, 40);
        C.told(41, x, "judge of 40 that are 0", () -> x.judge(4, 40), 0);
        C.refused(41, x, "judge(8, 0)", () -> x.judge(8, 0), -2);
        C.refused(41, x, "judge(-1, 0)", () -> x.judge(-1, 0), -2);
        C.refused(41, x, "judge(2, 41)", () -> x.judge(2, 41), -2);
        C.refused(41, x, "judge(2, -1)", () -> x.judge(2, -1), -2);
        C.refused(41, x, "judge of somebody", () -> x.judge(2, 40), -3);
        C.refused(41, x, "judge of NOTHING", () -> x.judge(3, 40), -4);
        C.refused(41, x, "judge of too few", () -> x.judge(1, 4), -2);
    }

    private static void behindAndBooked() {
        ThroughTheChain x = six();
        Check.fill(x, 0, 2, 4100, 1, 0);
        C.told(42, x, "behind(0, 0, 0)", () -> x.behind(0, 0, 0), 3);
        C.told(42, x, "behind(0, 1, 0)", () -> x.behind(0, 1, 0), 4);
        C.told(42, x, "behind(0, 1, 1)", () -> x.behind(0, 1, 1), 2);
        C.told(42, x, "behind(0, 1, 2)", () -> x.behind(0, 1, 2), -1);
        C.told(42, x, "behind(0, 2, 0)", () -> x.behind(0, 2, 0), 5);
        C.told(42, x, "behind(0, 2, 1)", () -> x.behind(0, 2, 1), 1);
        C.told(42, x, "behind(0, 2, 2)", () -> x.behind(0, 2, 2), 0);
        C.refused(42, x, "behind(0, 3, 0), WRONG", () -> x.behind(0, 3, 0), -5);
        C.refused(43, x, "booked(0, 3), WRONG", () -> x.booked(0, 3), -5);
        x.show(2, 0);
        C.refused(42, x, "behind(2, 0, 3)", () -> x.behind(2, 0, 3), -2);
        C.refused(42, x, "behind(2, 0, -1)", () -> x.behind(2, 0, -1), -2);
        int[][] bad = {{8, 0, -2}, {-1, 0, -2}, {2, 41, -2}, {2, -1, -2}, {2, 0, -3}, {3, 0, -4}, {0, 4, -2}};
        for (int[] b : bad) {
            C.refused(42, x, "behind(" + b[0] + ", " + b[1] + ", 0)", () -> x.behind(b[0], b[1], 0), b[2]);
            C.refused(43, x, "booked(" + b[0] + ", " + b[1] + ")", () -> x.booked(b[0], b[1]), b[2]);
        }
        C.told(43, x, "booked(0, 0)", () -> x.booked(0, 0), 0);
        C.due(43, "booked(0, 1)", x.booked(0, 1), 1);
        C.due(43, "CHAIN 0", Check.line(x, 0), 10142);
        C.due(43, "CHAIN 1", Check.line(x, 1), 135);
        C.due(43, "TURN", x.status(2), 1);
        C.due(43, "TIRED of 1", x.oneOf(1, 3), 1);
        C.due(43, "TIRED of 2", x.oneOf(2, 3), 1);
        C.due(43, "all TIRED", x.status(7), 2);
        C.due(43, "SEED stays", x.status(9), 1);
        Check.fill(x, 0, 2, 1);
        C.due(43, "booked(0, 1): RUNS", x.booked(0, 1), 2);
        C.due(43, "CHAIN 0", Check.line(x, 0), 114203);
        C.due(43, "CHAIN 1", Check.line(x, 1), 15);
        C.due(43, "TURN", x.status(2), 0);
        C.due(43, "all TIRED", x.status(7), 4);
    }

    private static void orderAndBest() {
        ThroughTheChain x = six();
        Check.fill(x, 0, 2, 2, 0, 1, 9);
        C.due(44, "order(0, 0)", x.order(0, 0), 3);
        C.due(44, "CHAIN 0", Check.line(x, 0), 1201);
        C.due(44, "PLACE of 2", x.oneOf(2, 6), 0);
        Check.fill(x, 1, 0, 5, 4, 3);
        C.due(44, "order(1, 1)", x.order(1, 1), 3);
        C.due(44, "CHAIN 1", Check.line(x, 1), 1543);
        x.show(2, 0);
        C.refused(44, x, "order(0, 8)", () -> x.order(0, 8), -2);
        C.refused(44, x, "order(0, -1)", () -> x.order(0, -1), -2);
        C.refused(44, x, "order(2, 2)", () -> x.order(2, 2), -2);
        C.refused(44, x, "order(-1, 3)", () -> x.order(-1, 3), -2);
        C.refused(44, x, "order by somebody", () -> x.order(0, 2), -3);
        C.refused(44, x, "order by NOTHING", () -> x.order(0, 3), -4);
        C.refused(44, x, "order by the other's PEOPLE", () -> x.order(0, 1), -2);
        long[][] bad = {{0, 1}, {0, 1, 1}, {0, 1, 3}, {0, 1, 6}, {0, 1, -1}, {0, 1, 8}, {0, 1, (1L << 32) + 2}, {}};
        for (long[] b : bad) {
            Check.fill(x, 4, 3, b);
            C.refused(44, x, "order by " + java.util.Arrays.toString(b), () -> x.order(0, 4), -2);
        }
        ThroughTheChain none = new ThroughTheChain();
        none.row(0, 4, 0);
        C.told(44, none, "order of nobody", () -> none.order(1, 0), 0);

        ThroughTheChain y = of("one 0 0 1 0 0;one 0 0 5 0 0;one 0 0 9 0 0;one 1 0 5 5 5");
        C.due(45, "best(0)", y.best(0), 8);
        C.due(45, "CHAIN 0", Check.line(y, 0), 1021);
        C.told(45, y, "best(0) again", () -> y.best(0), 8);
        C.told(45, y, "best(1), one", () -> y.best(1), 0);
        C.refused(45, y, "best(2)", () -> y.best(2), -2);
        C.refused(45, y, "best(-1)", () -> y.best(-1), -2);
        C.told(45, none, "best of nobody", () -> none.best(0), 0);
        for (int i = 0; i < 7; i++) {
            none.one(0, 0, 5, 5, 0);
        }
        C.told(45, none, "best of seven", () -> none.best(0), 8);
        none.one(0, 0, 5, 5, 0);
        C.refused(45, none, "best of eight", () -> none.best(0), -6);
        Check.fill(none, 0, 0, 7, 6, 5, 4, 3, 2, 1, 0);
        C.due(44, "order of eight", none.order(0, 0), 8);
        C.due(44, "CHAIN 0", Check.line(none, 0), 176543210);
    }

    private static void run() {
        ThroughTheChain x = six();
        C.due(46, "run(3, 0, 1)", x.run(3, 0, 1), 1);
        C.due(46, "CHAIN 0", Check.line(x, 0), 102);
        C.due(46, "CHAIN 1", Check.line(x, 1), 14531);
        C.due(46, "CHAIN of 1", x.oneOf(1, 5), 1);
        C.due(46, "TURN", x.status(2), 1);
        C.due(46, "RUNS", x.status(1), 1);
        C.due(46, "SEED", x.status(9), 1103527590);
        C.due(46, "TIRED of 0", x.oneOf(0, 3), 1);
        C.due(46, "TIRED of 1", x.oneOf(1, 3), 1);
        C.due(46, "all TIRED", x.status(7), 2);
        ThroughTheChain left = six();
        C.due(46, "run(3, 0, 0)", left.run(3, 0, 0), 1);
        C.due(46, "CHAIN 0, left", Check.line(left, 0), 112);
        C.due(46, "CHAIN 1, left", Check.line(left, 1), 14530);
        ThroughTheChain held = six();
        held.tell(2, 2, 20);
        C.due(46, "run(4, 1, 0)", held.run(4, 1, 0), 1 - 1);
        C.due(46, "CHAIN 0, HELD", Check.line(held, 0), 10142);
        C.due(46, "20 at most", held.oneOf(2, 3), 20);
        C.due(46, "TIRED of 1", held.oneOf(1, 3), 1);
        C.due(46, "not TIRED, the runner", held.oneOf(4, 3), 0);
        // The first DRAW of SEED 1 is 16838, of SEED 2 it is 33676.
        draw(1, 4, 8, 1);
        draw(1, 4, 7, 0);
        draw(2, 10, 4, 1);
        draw(2, 10, 3, 0);
        ThroughTheChain y = six();
        C.refused(46, y, "run(6, 0, 0)", () -> y.run(6, 0, 0), -2);
        C.refused(46, y, "run(-1, 0, 0)", () -> y.run(-1, 0, 0), -2);
        C.refused(46, y, "run(3, 2, 0)", () -> y.run(3, 2, 0), -2);
        C.refused(46, y, "run(3, -1, 0)", () -> y.run(3, -1, 0), -2);
        C.refused(46, y, "run(0, 0, 2)", () -> y.run(0, 0, 2), -2);
        C.refused(46, y, "run(0, 0, -1)", () -> y.run(0, 0, -1), -2);
        C.refused(46, y, "run(0, 0, 0)", () -> y.run(0, 0, 0), -5);
        y.ask(3, 1);
        y.run(4, 1, 0);
        C.refused(46, y, "run(0, 0, 0), OVER", () -> y.run(0, 0, 0), -5);
    }

    /** 4 of FIVE, of some WEIGHT (and 5 more FORCE), at JOINT 0, whose STRENGTH is 14. */
    private static void draw(int seed, int spread, int weight, int torn) {
        ThroughTheChain x = Check.five();
        x.seed(seed);
        x.ask(1, spread);
        x.tell(4, 1, weight);
        C.due(46, "SEED " + seed + ", SPREAD " + spread + ", WEIGHT " + weight, x.run(4, 0, 0), torn);
    }

    private static void runs() {
        ThroughTheChain x = Check.five();
        C.due(47, "runs(40)", x.runs(40), 0);
        C.due(47, "CHAIN 0: 4 is called and HELD", Check.line(x, 0), 10412);
        C.due(47, "RUNS", x.status(1), 1);
        C.due(47, "one DRAW", x.status(9), 1103527590);
        // 3 is lighter, but has more FORCE by a; CALL calls 4.
        ThroughTheChain heavy = of("one 0 0 8 9 0;one 0 0 8 9 0;one 0 0 8 9 0;one 1 4 9 7 9;one 1 0 9 8 0;one 1 0 9 20 0");
        C.due(47, "runs(1)", heavy.runs(1), 0);
        C.due(47, "CHAIN 0: not the lightest", Check.line(heavy, 0), 10412);
        C.told(47, x, "runs(1), OVER", () -> x.runs(1), 0);
        // By turns one of two must tear the other two apart, and takes the right one, whose GRIP is greater.
        ThroughTheChain y = of("one 0 0 1 20 0;one 0 0 2 20 0;one 0 0 1 20 0;one 1 0 1 20 0;one 1 0 2 20 0;one 1 0 1 20 0");
        C.due(47, "runs(1)", y.runs(1), 1);
        C.due(47, "CHAIN 0", Check.line(y, 0), 102);
        C.due(47, "CHAIN 1", Check.line(y, 1), 14531);
        C.due(47, "runs(2)", y.runs(2), 2);
        C.due(47, "RUNS", y.status(1), 3);
        ThroughTheChain bell = of("one 0 0 20 0 0;one 0 0 20 0 0;one 0 0 20 0 0;one 1 0 20 0 0;one 1 0 20 0 0;one 1 0 20 0 0;bell 5");
        C.due(47, "runs(3)", bell.runs(3), 0);
        C.due(47, "RUNS", bell.status(1), 3);
        C.due(47, "runs(40), BELL 5", bell.runs(40), 0);
        C.due(47, "RUNS", bell.status(1), 5);
        C.refused(47, y, "runs(0)", () -> y.runs(0), -2);
        C.refused(47, y, "runs(-1)", () -> y.runs(-1), -2);
        C.refused(47, y, "runs(41)", () -> y.runs(41), -2);
    }

    private static void restAndAgain() {
        ThroughTheChain x = Check.five();
        x.tell(0, 2, 3);
        x.tell(1, 2, 5);
        x.tell(2, 2, 20);
        C.told(48, x, "rest(0)", () -> x.rest(0), 2);
        C.due(48, "rest(3)", x.rest(3), 3);
        C.due(48, "TIRED of 0", x.oneOf(0, 3), 0);
        C.due(48, "TIRED of 1", x.oneOf(1, 3), 2);
        C.due(48, "TIRED of 2", x.oneOf(2, 3), 17);
        C.refused(48, x, "rest(21)", () -> x.rest(21), -2);
        C.refused(48, x, "rest(-1)", () -> x.rest(-1), -2);
        C.due(48, "rest(20)", x.rest(20), 5);
        C.due(48, "all TIRED", x.status(7), 0);
        C.told(48, new ThroughTheChain(), "rest of nobody", () -> new ThroughTheChain().rest(5), 0);

        ThroughTheChain y = six();
        y.ask(3, 30);
        y.ask(2, 1);
        y.run(4, 1, 0);
        C.due(49, "TURN", y.status(2), 1);
        y.tell(5, 2, 20);
        int line = Check.line(y, 0);
        C.due(49, "again()", y.again(), 1);
        C.due(49, "RUNS", y.status(1), 0);
        C.due(49, "TURN", y.status(2), 0);
        C.due(49, "all TIRED", y.status(7), 0);
        C.due(49, "all stay", Check.line(y, 0), line);
        C.due(49, "BELL stays", y.status(6), 30);
        C.due(49, "WRISTS stay", y.status(5), 1);
        C.due(49, "SEED stays", y.status(9), 1103527590);
        C.told(49, y, "again() again", () -> y.again(), 0);
    }

    private static void seed() {
        ThroughTheChain x = new ThroughTheChain();
        C.due(50, "seed(-5)", x.seed(-5), 1);
        C.due(50, "status(9)", x.status(9), -5);
        C.due(50, "seed(least)", x.seed(Integer.MIN_VALUE), -5);
        C.due(50, "seed(0)", x.seed(0), Integer.MIN_VALUE);
    }

    private static void imageAndBack() {
        ThroughTheChain x = Check.five();
        C.refused(52, x, "back() of nothing", () -> x.back(), -5);
        x.tell(0, 2, 4);
        x.ask(0, 12);
        x.ask(1, 2);
        x.ask(2, 1);
        x.ask(3, 50);
        x.seed(77);
        x.feed(59);
        Check.fill(x, 0, 2, 1, 2);
        C.told(51, x, "image()", () -> x.image(), 1);
        Check.read(x, " ");
        x.one(1, 0, 1, 1, 1);
        x.show(1, 5);
        x.show(2, 4);
        x.set(0, 0, 9);
        x.tell(0, 0, 20);
        x.tell(0, 1, 20);
        x.tell(0, 2, 20);
        x.ask(0, 0);
        x.ask(1, 10);
        x.ask(2, 0);
        x.ask(3, 99);
        x.run(4, 0, 1);
        x.feed(97);
        x.feed(97);
        int bad = x.status(12);
        C.due(52, "back()", x.back(), 1);
        int[] due = {5, 0, 0, 12, 2, 1, 50, 4, 2, 77, 2};
        for (int what = 0; what < due.length; what++) {
            C.due(52, "status(" + what + ")", x.status(what), due[what]);
        }
        C.due(52, "refusals stay", x.status(12), bad);
        C.due(52, "CHAIN 0", Check.line(x, 0), 1012);
        C.due(52, "CHAIN 1", Check.line(x, 1), 134);
        C.due(52, "GRIP of 0", x.oneOf(0, 1), 8);
        C.due(52, "WEIGHT of 0", x.oneOf(0, 2), 9);
        C.due(52, "TIRED of 0", x.oneOf(0, 3), 4);
        C.due(52, "the SHELF with 5", x.holds(1), -1);
        C.due(52, "the SHELF with 4", x.holds(2), 14);
        C.due(52, "the ROW stays", x.element(0, 0), 9);
        C.due(52, "a new one behind it", x.one(0, 1, 2, 3, 4), 5);
        int[] fresh = {1, 2, 3, 0, 4, 0, 3, 7};
        for (int what = 0; what < 8; what++) {
            C.due(52, "oneOf(5, " + what + ")", x.oneOf(5, what), fresh[what]);
        }
        C.due(52, "back() once more", x.back(), 1);
        C.due(52, "status(0)", x.status(0), 5);
        x.one(0, 1, 2, 3, 4);
        C.due(51, "image() once more", x.image(), 1);
        x.show(0, 5);
        x.one(0, 1, 2, 3, 4);
        x.show(1, 6);
        x.show(7, 6);
        x.show(2, 6);
        x.back();
        C.due(51, "the later image", x.status(0), 6);
        C.due(52, "the SHELF with 5, who was kept", x.holds(0), 15);
        C.due(52, "the SHELF with 6, who was not", x.holds(1), -1);
        C.due(52, "the last SHELF with 6", x.holds(7), -1);
        x.one(0, 1, 2, 3, 4);
        x.show(0, 6);
        x.back();
        C.due(52, "the first SHELF with 6", x.holds(0), -1);
    }

    private static void status() {
        ThroughTheChain x = six();
        for (int what : new int[] {-1, 11, 17, Integer.MAX_VALUE, Integer.MIN_VALUE}) {
            C.told(53, x, "status(" + what + ")", () -> x.status(what), -1);
        }
        x.tell(0, 2, 7);
        x.tell(5, 2, 8);
        x.feed(1);
        x.row(3, 0, 0);
        x.show(7, 0);
        x.ask(4, 1);
        int[] due = {6, 0, 1, 9, 1, 0, 20, 15, 1, 1, 2};
        for (int what = 0; what < due.length; what++) {
            int w = what;
            C.told(53, x, "status(" + what + ")", () -> x.status(w), due[what]);
        }
        x.show(9, 0);
        x.show(9, 0);
        x.set(7, 0, 0);
        x.set(6, 0, 0);
        x.set(6, 0, 0);
        x.set(6, 0, 0);
        x.back();
        x.one(0, 0, 0, 0, 0);
        x.one(0, 0, 0, 0, 0);
        x.one(0, 0, 0, 0, 0);
        int[] refusals = {2, 1, 3, 1, 1};
        for (int i = 0; i < 5; i++) {
            C.due(53, Check.REFUSALS[i], x.status(12 + i), refusals[i]);
        }
    }

    public static void main(String[] args) {
        move();
        judge();
        judgeOtherwise();
        behindAndBooked();
        orderAndBest();
        run();
        runs();
        restAndAgain();
        seed();
        imageAndBack();
        status();
        C.end();
    }
}
