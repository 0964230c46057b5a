import java.util.Random;

/**
 * Random runs of up to 512 calls on new objects, each answer held against the Model's, and the whole state behind each
 * run. The random source has fixed seeds, so a failure comes again.
 */
public final class RandomCallsTest {
    private static final String[] NAMES = {"row", "set", "copy", "element", "holds", "show", "says", "one", "tell", "ask",
        "feed", "wipe", "yard", "oneOf", "chainOf", "strength", "weakest", "strongest", "hardest", "odds", "at", "take",
        "call", "won", "over", "play", "stand", "worth", "move", "pair", "tiredest", "spreadFor", "yardsFor", "leads",
        "game", "first", "together", "swap", "could", "judge", "behind", "booked", "order", "best", "run", "runs", "rest",
        "again", "seed", "image", "back", "status"};
    private static final int[] ODD = {-1, -2, -1000, 8, 9, 21, 41, 100, 256, 1000, Integer.MAX_VALUE, Integer.MIN_VALUE,
        Integer.MAX_VALUE - 3};

    /** So that the last call, which may be a whole yard, and the whole state have room within 512 calls. */
    private static final int ENOUGH = 280;

    private final Random random;
    private final ThroughTheChain x = new ThroughTheChain();
    private final Model m = new Model();
    private final StringBuilder told = new StringBuilder();
    private int calls = 0;

    private RandomCallsTest(long seed) {
        random = new Random(seed);
    }

    /** Mostly 0 to most, now and then something that may not be, just above it too. */
    private int upTo(int most) {
        int chance = random.nextInt(40);
        if (chance == 0) return most + 1;
        return chance == 1 ? ODD[random.nextInt(ODD.length)] : random.nextInt(most + 1);
    }

    /** Likely one that can be called, so that runs come about. */
    private int runner() {
        if (random.nextInt(4) == 0 || m.now.called().isEmpty()) return upTo(7);
        return m.now.called().get(random.nextInt(m.now.called().size()));
    }

    private int joint() {
        int n = m.now.callers().size() - 1;
        return n < 1 || random.nextInt(6) == 0 ? upTo(7) : random.nextInt(n);
    }

    private void due(String call, long got, long want) {
        calls++;
        told.append(call).append(" = ").append(got).append('\n');
        if (got != want) {
            throw new IllegalStateException(call + " answered " + got + ", due is " + want + " behind\n" + told);
        }
    }

    private String number(int most) {
        int v = random.nextInt(30) == 0 ? random.nextInt(200) : random.nextInt(most + 1);
        return (random.nextInt(12) == 0 ? "0" : "") + v;
    }

    /** Statements that may mostly stand; runs are told as the model's state has them at the tape's beginning. */
    private String someYard() {
        StringBuilder b = new StringBuilder();
        int n = 1 + random.nextInt(4);
        for (int i = 0; i < n; i++) {
            if (i > 0) b.append(random.nextBoolean() ? ";" : " ; ");
            switch (random.nextInt(9)) {
                case 0: case 1: case 2:
                    b.append("one ").append(number(1)).append(' ').append(number(5)).append(' ').append(number(20))
                        .append("  ").append(number(20)).append(' ').append(number(9));
                    break;
                case 3:
                    b.append("tired").append(number(7)).append(' ').append(number(20));
                    break;
                case 4:
                    b.append("yards ").append(number(30));
                    break;
                case 5:
                    b.append(random.nextBoolean() ? "spread " + number(10) : "wrists " + number(1));
                    break;
                case 6:
                    b.append("bell ").append(number(99));
                    break;
                default:
                    b.append("run ").append(runner()).append(' ').append(joint());
                    if (random.nextBoolean()) b.append(' ').append(number(1));
                    break;
            }
        }
        if (random.nextInt(6) == 0) b.insert(random.nextInt(b.length() + 1), ";a 0 #\u00e9".charAt(random.nextInt(7)));
        if (random.nextInt(8) == 0) b.setLength(random.nextInt(b.length() + 1));
        return b.toString();
    }

    /** A BOOK in SHELF s that mostly can be: played out on a twin of the model's state. */
    private int someBook(int s) {
        int n = 1 + random.nextInt(5);
        due("row book", x.row(s, 2, n), m.row(s, 2, n));
        Model.State t = m.now.twin();
        for (int k = 0; k < n; k++) {
            int v = random.nextInt(9000);
            if (!t.over() && random.nextInt(12) != 0) {
                int i = t.called().get(random.nextInt(t.called().size()));
                int j = random.nextInt(t.callers().size() - 1);
                int odds = t.odds(i, j);
                int end = odds == 0 ? 0 : odds == 1_000_000 ? 1 + random.nextInt(2) : random.nextInt(3);
                if (random.nextInt(12) == 0) end = random.nextInt(4);
                v = 1000 * i + 100 * j + end;
                if (end < 3) t.pass(i, j, end - 1);
            }
            due("set book " + v, x.set(s, k, v), m.set(s, k, v));
        }
        return n;
    }

    private void someOrder(int s) {
        java.util.List<Integer> l = new java.util.ArrayList<>(m.now.chains.get(random.nextInt(2)));
        java.util.Collections.shuffle(l, random);
        int sort = random.nextInt(5);
        due("row order", x.row(s, sort, l.size()), m.row(s, sort, l.size()));
        for (int k = 0; k < l.size(); k++) due("set order " + l.get(k), x.set(s, k, l.get(k)), m.set(s, k, l.get(k)));
    }

    private void feedAll(String text) {
        for (int i = 0; i < text.length(); i++) due("feed " + text.charAt(i), x.feed(text.charAt(i)), m.feed(text.charAt(i)));
    }

    private void call(String name) {
        int s = upTo(7);
        int c = upTo(1);
        int i = runner();
        int j = joint();
        switch (name) {
            case "row": { int o = upTo(4), n = upTo(40); due("row " + s + " " + o + " " + n, x.row(s, o, n), m.row(s, o, n)); break; }
            case "set": { int k = upTo(12); long v = random.nextBoolean() ? random.nextLong() : random.nextInt(9000);
                due("set " + s + " " + k + " " + v, x.set(s, k, v), m.set(s, k, v)); break; }
            case "copy": { int q = random.nextInt(3) == 0 ? s : upTo(7), a = upTo(10), b = upTo(10), n = upTo(10);
                due("copy " + s + " " + q + " " + a + " " + b + " " + n, x.copy(s, q, a, b, n), m.copy(s, q, a, b, n)); break; }
            case "element": { int k = upTo(39); due("element " + s + " " + k, x.element(s, k), m.element(s, k)); break; }
            case "holds": due("holds " + s, x.holds(s), m.holds(s)); break;
            case "show": { int o = upTo(8) - 1; due("show " + s + " " + o, x.show(s, o), m.show(s, o)); break; }
            case "says": { int k = upTo(5); due("says " + s + " " + k, x.says(s, k), m.says(s, k)); break; }
            case "one": { int k = upTo(5), g = upTo(20), w = upTo(20), a = upTo(9);
                due("one " + c + " " + k + " " + g + " " + w + " " + a, x.one(c, k, g, w, a), m.one(c, k, g, w, a)); break; }
            case "tell": { int w = upTo(2), v = upTo(20); due("tell " + i + " " + w + " " + v, x.tell(i, w, v), m.tell(i, w, v)); break; }
            case "ask": { int w = upTo(4), v = upTo(w == 0 ? 30 : w == 1 ? 10 : w == 3 ? 99 : 1);
                due("ask " + w + " " + v, x.ask(w, v), m.ask(w, v)); break; }
            case "feed": { int l = upTo(255); due("feed " + l, x.feed(l), m.feed(l)); break; }
            case "wipe": due("wipe", x.wipe(), m.wipe()); break;
            case "yard":
                if (random.nextInt(3) != 0) due("wipe", x.wipe(), m.wipe());
                feedAll(someYard());
                due("yard", x.yard(), m.yard());
                break;
            case "oneOf": { int w = upTo(7); due("oneOf " + i + " " + w, x.oneOf(i, w), m.oneOf(i, w)); break; }
            case "chainOf": { int p = upTo(7) - 1; due("chainOf " + c + " " + p, x.chainOf(c, p), m.chainOf(c, p)); break; }
            case "strength": due("strength " + c + " " + j, x.strength(c, j), m.strength(c, j)); break;
            case "weakest": due("weakest " + c, x.weakest(c), m.weakest(c)); break;
            case "strongest": due("strongest " + c, x.strongest(c), m.strongest(c)); break;
            case "hardest": due("hardest " + c, x.hardest(c), m.hardest(c)); break;
            case "odds": due("odds " + i + " " + j, x.odds(i, j), m.odds(i, j)); break;
            case "at": due("at " + i, x.at(i), m.at(i)); break;
            case "take": due("take " + j, x.take(j), m.take(j)); break;
            case "call": due("call", x.call(), m.call()); break;
            case "won": due("won", x.won(), m.won()); break;
            case "over": due("over", x.over(), m.over()); break;
            case "play": { int w = upTo(2); due("play " + c + " " + w, x.play(c, w), m.play(c, w)); break; }
            case "stand": { int p = upTo(7) - 1; due("stand " + c + " " + p, x.stand(c, p), m.stand(c, p)); break; }
            case "worth": due("worth " + c, x.worth(c), m.worth(c)); break;
            case "move": { int p = upTo(7); due("move " + i + " " + p, x.move(i, p), m.move(i, p)); break; }
            case "pair": due("pair", x.pair(), m.pair()); break;
            case "tiredest": due("tiredest", x.tiredest(), m.tiredest()); break;
            case "spreadFor": due("spreadFor " + i + " " + j, x.spreadFor(i, j), m.spreadFor(i, j)); break;
            case "yardsFor": due("yardsFor " + i + " " + j, x.yardsFor(i, j), m.yardsFor(i, j)); break;
            case "leads": due("leads " + c, x.leads(c), m.leads(c)); break;
            case "game": { int d = upTo(2); due("game " + d, x.game(d), m.game(d)); break; }
            case "first": { int d = upTo(2); due("first " + d, x.first(d), m.first(d)); break; }
            case "together": due("together " + c, x.together(c), m.together(c)); break;
            case "swap": { int w = upTo(1); due("swap " + c + " " + w, x.swap(c, w), m.swap(c, w)); break; }
            case "could": due("could " + j + " " + c, x.could(j, c), m.could(j, c)); break;
            case "judge": case "behind": case "booked": books(name, s, c); break;
            case "order":
                if (random.nextBoolean() && s >= 0 && s < 8) someOrder(s);
                due("order " + c + " " + s, x.order(c, s), m.order(c, s));
                break;
            case "best": due("best " + c, x.best(c), m.best(c)); break;
            case "run": due("run " + i + " " + j + " " + c, x.run(i, j, c), m.run(i, j, c)); break;
            case "runs": { int n = random.nextInt(4) == 0 ? upTo(40) : upTo(3); due("runs " + n, x.runs(n), m.runs(n)); break; }
            case "rest": { int n = upTo(20); due("rest " + n, x.rest(n), m.rest(n)); break; }
            case "again": due("again", x.again(), m.again()); break;
            case "seed": { int v = random.nextInt(); due("seed " + v, x.seed(v), m.seed(v)); break; }
            case "image": due("image", x.image(), m.image()); break;
            case "back": due("back", x.back(), m.back()); break;
            case "status": { int w = upTo(17); due("status " + w, x.status(w), m.status(w)); break; }
            default: throw new IllegalStateException("no such call: " + name);
        }
    }

    private void books(String name, int s, int c) {
        int n = upTo(4);
        if (random.nextInt(3) != 0 && s >= 0 && s < 8) n = someBook(s);
        int w = upTo(2);
        if (name.equals("judge")) due("judge " + s + " " + n, x.judge(s, n), m.judge(s, n));
        else if (name.equals("booked")) due("booked " + s + " " + n, x.booked(s, n), m.booked(s, n));
        else due("behind " + s + " " + n + " " + w, x.behind(s, n, w), m.behind(s, n, w));
    }

    private void wholeState() {
        for (int w = -1; w < 18; w++) due("status " + w, x.status(w), m.status(w));
        for (int c = 0; c < 2; c++) {
            for (int p = -1; p < m.now.chains.get(c).size(); p++) due("chainOf " + c + " " + p, x.chainOf(c, p), m.chainOf(c, p));
        }
        for (int i = 0; i < m.now.people.size(); i++) {
            for (int w = 0; w < 8; w++) due("oneOf " + i + " " + w, x.oneOf(i, w), m.oneOf(i, w));
        }
        for (int s = 0; s < 8; s++) {
            due("holds " + s, x.holds(s), m.holds(s));
            for (int k = 0; k < 40 && calls < Told.MOST_CALLS - 8; k++) due("element " + s + " " + k, x.element(s, k), m.element(s, k));
        }
    }

    /** Some runs begin with a full yard, since plays are short in a small one. */
    private void begin() {
        int n = random.nextInt(10);
        int sisters = random.nextInt(3);
        for (int k = 0; k < n && k < 8; k++) {
            int c = random.nextInt(8) == 0 ? random.nextInt(2) : random.nextInt(3) == 0 ? 1 : k % 2;
            int kind = sisters == 0 ? 3 : random.nextInt(6);
            int g = random.nextInt(21), w = random.nextInt(21), a = random.nextInt(10);
            due("one " + c + " " + kind + " " + g + " " + w + " " + a, x.one(c, kind, g, w, a), m.one(c, kind, g, w, a));
        }
        int yards = random.nextInt(31), spread = 1 + random.nextInt(10);
        due("ask 0 " + yards, x.ask(0, yards), m.ask(0, yards));
        due("ask 1 " + spread, x.ask(1, spread), m.ask(1, spread));
    }

    public static void main(String[] args) {
        int runs = args.length > 0 ? Integer.parseInt(args[0]) : 3000;
        for (int r = 0; r < runs; r++) {
            RandomCallsTest t = new RandomCallsTest(r);
            try {
                t.begin();
                for (int k = 0; k < 60 && t.calls < ENOUGH; k++) t.call(NAMES[t.random.nextInt(NAMES.length)]);
                t.wholeState();
            } catch (RuntimeException e) {
                System.out.println("run " + r + ": " + e);
                e.printStackTrace(System.out);
                System.exit(1);
            }
        }
        System.out.println("RandomCallsTest: " + runs + " random runs are as the model has them");
    }
}
