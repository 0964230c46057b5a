import java.util.ArrayList;
import java.util.Arrays;
import java.util.Collections;
import java.util.List;

/**
 * The document once more, written in the plainest way that the whole library allows (lists, copies, all orders tried,
 * numbers counted one by one), so that the class can be held against it by random calls.
 */
final class Model {
    static final int NONE = -1;

    static final class Person {
        final int number, kind, a;
        int grip, weight, tired;

        Person(int number, int kind, int grip, int weight, int a) {
            this.number = number;
            this.kind = kind;
            this.grip = grip;
            this.weight = weight;
            this.a = a;
        }

        Person twin() {
            Person p = new Person(number, kind, grip, weight, a);
            p.tired = tired;
            return p;
        }
    }

    static final class State {
        List<Person> people = new ArrayList<>();
        List<List<Integer>> chains = new ArrayList<>(List.of(new ArrayList<>(), new ArrayList<>()));
        int yards = 9, spread = 1, wrists = 0, bell = 20, turn = 0, runs = 0, seed = 1;

        State twin() {
            State s = new State();
            for (Person p : people) s.people.add(p.twin());
            for (int c = 0; c < 2; c++) s.chains.set(c, new ArrayList<>(chains.get(c)));
            s.yards = yards;
            s.spread = spread;
            s.wrists = wrists;
            s.bell = bell;
            s.turn = turn;
            s.runs = runs;
            s.seed = seed;
            return s;
        }

        List<Integer> callers() {
            return chains.get(turn);
        }

        List<Integer> called() {
            return chains.get(1 - turn);
        }

        List<Integer> calledByNumber() {
            List<Integer> l = new ArrayList<>(called());
            Collections.sort(l);
            return l;
        }

        int hold(int i, int beside) {
            Person p = people.get(i);
            int h = Math.max(0, p.grip - p.tired);
            if (p.kind == 1 || p.kind == 3) h += p.a;
            if (p.kind == 2 || p.kind == 5) h /= 2;
            if (p.kind == 3 && beside >= 0 && people.get(beside).kind == 3) h += 5;
            if (p.kind == 4) h += p.weight / 4;
            return h;
        }

        int force(int i) {
            Person p = people.get(i);
            int f = p.weight + yards / 3;
            if (p.kind == 4) f += p.a;
            if (p.kind == 5) f += 2;
            return f;
        }

        List<Integer> strengths(List<Integer> chain) {
            List<Integer> l = new ArrayList<>();
            int joints = chain.size() - 1;
            for (int j = 0; j < joints; j++) {
                int s = hold(chain.get(j), chain.get(j + 1)) + hold(chain.get(j + 1), chain.get(j));
                if (wrists == 1) s += 3;
                if (j == 0 || j == joints - 1) s = Math.max(0, s - 2);
                l.add(s);
            }
            return l;
        }

        int least(List<Integer> chain) {
            List<Integer> l = strengths(chain);
            return l.isEmpty() ? 0 : Collections.min(l);
        }

        boolean joint(int j) {
            return j >= 0 && j < callers().size() - 1;
        }

        int odds(int i, int j) {
            int n = 0;
            for (int k = 0; k < spread; k++) if (force(i) + k > strengths(callers()).get(j)) n++;
            return (int) (1_000_000L * n / spread);
        }

        boolean over() {
            return chains.get(0).size() < 2 || chains.get(1).size() < 2 || runs >= bell;
        }

        int more() {
            return Integer.compare(chains.get(0).size(), chains.get(1).size());
        }

        int won() {
            if (!over() || more() == 0) return NONE;
            return more() > 0 ? 0 : 1;
        }

        int at(int i) {
            int best = 0;
            for (int j = 1; j < callers().size() - 1; j++) if (odds(i, j) > odds(i, best)) best = j;
            return best;
        }

        int take(int j) {
            int l = callers().get(j), r = callers().get(j + 1);
            return hold(l, r) >= hold(r, l) ? 0 : 1;
        }

        int call(int rule) {
            int who = NONE;
            for (int i : calledByNumber()) {
                if (who == NONE) who = i;
                else if (rule == 0 && odds(i, at(i)) < odds(who, at(who))) who = i;
                else if (rule == 1 && people.get(i).weight < people.get(who).weight) who = i;
            }
            return who;
        }

        /** end: -1 held, 0 left, 1 right. */
        void pass(int i, int j, int end) {
            List<Integer> there = callers(), own = called();
            int l = there.get(j), r = there.get(j + 1);
            for (int t : new int[] {l, r}) people.get(t).tired = Math.min(20, people.get(t).tired + 1);
            own.remove(Integer.valueOf(i));
            if (end < 0) {
                there.add(j + 1, i);
            } else {
                own.add(i);
                there.remove(j + end);
                own.add(end == 0 ? l : r);
            }
            turn = 1 - turn;
            runs++;
        }

        boolean truth(int i, int j, int side) {
            seed = seed * 1103515245 + 12345;
            int draw = ((seed >> 16) & 0xffff) % spread;
            boolean torn = force(i) + draw > strengths(callers()).get(j);
            pass(i, j, torn ? side : -1);
            return torn;
        }

        int chainOf(int i) {
            return chains.get(0).contains(i) ? 0 : 1;
        }
    }

    static final class Fault extends RuntimeException {
        private static final long serialVersionUID = 1L;
        final int place;

        Fault(int place) {
            this.place = place;
        }
    }

    State now = new State();
    State kept = null;
    final List<Integer> tape = new ArrayList<>();
    /** null, a long[] with its sort in sorts, or an Integer. */
    final Object[] shelves = new Object[8];
    final int[] sorts = new int[8];
    final int[] refusals = new int[7];

    int refuse(int r) {
        refusals[-r]++;
        return r;
    }

    static boolean in(long v, long low, long high) {
        return v >= low && v <= high;
    }

    boolean who(int i) {
        return in(i, 0, now.people.size() - 1);
    }

    int row(int s, int sort, int n) {
        if (!in(s, 0, 7) || !in(sort, 0, 4) || !in(n, 0, 40)) return refuse(-2);
        shelves[s] = new long[n];
        sorts[s] = sort;
        return 1;
    }

    int set(int s, int i, long v) {
        if (!in(s, 0, 7)) return refuse(-2);
        if (shelves[s] instanceof Integer) return refuse(-3);
        if (shelves[s] == null) return refuse(-4);
        long[] r = (long[]) shelves[s];
        if (!in(i, 0, r.length - 1)) return refuse(-2);
        long[] cut = {(byte) v, (short) v, (int) v, v, v == 0 ? 0 : 1};
        r[i] = cut[sorts[s]];
        return 1;
    }

    int copy(int p, int q, int i, int j, int n) {
        if (!in(p, 0, 7) || !in(q, 0, 7)) return refuse(-2);
        if (shelves[p] instanceof Integer || shelves[q] instanceof Integer) return refuse(-3);
        if (shelves[p] != null && shelves[q] != null && sorts[p] != sorts[q]) return refuse(-3);
        if (shelves[p] == null || shelves[q] == null) return refuse(-4);
        long[] a = (long[]) shelves[p], b = (long[]) shelves[q];
        if (i < 0 || j < 0 || n < 0 || (long) i + n > a.length || (long) j + n > b.length) return refuse(-2);
        long[] was = a.clone();
        for (int k = 0; k < n; k++) b[j + k] = was[i + k];
        return n;
    }

    long element(int s, int i) {
        if (!in(s, 0, 7) || !(shelves[s] instanceof long[])) return 0;
        long[] r = (long[]) shelves[s];
        return in(i, 0, r.length - 1) ? r[i] : 0;
    }

    int holds(int s) {
        if (!in(s, 0, 7) || shelves[s] == null) return NONE;
        return shelves[s] instanceof Integer ? 10 + (Integer) shelves[s] : sorts[s];
    }

    int show(int s, int one) {
        if (!in(s, 0, 7) || one != NONE && !who(one)) return refuse(-2);
        shelves[s] = one == NONE ? null : Integer.valueOf(one);
        return 1;
    }

    int says(int s, int kind) {
        if (!in(s, 0, 7) || !in(kind, 0, 5)) return refuse(-2);
        if (shelves[s] instanceof long[]) return refuse(-3);
        if (shelves[s] == null) return refuse(-4);
        int i = (Integer) shelves[s];
        int[][] are = {{0}, {0, 1}, {0, 2}, {0, 1, 3}, {0, 4}, {0, 2, 5}};
        if (Arrays.stream(are[now.people.get(i).kind]).noneMatch(k -> k == kind)) return refuse(-3);
        if (kind == 0) return now.chainOf(i);
        if (kind == 1 || kind == 2) return now.hold(i, NONE);
        if (kind == 3) {
            return (int) now.chains.get(now.chainOf(i)).stream().filter(o -> o != i && now.people.get(o).kind == 3).count();
        }
        return now.force(i);
    }

    int one(int chain, int kind, int grip, int weight, int a) {
        if (!in(chain, 0, 1) || !in(kind, 0, 5) || !in(grip, 0, 20) || !in(weight, 0, 20) || !in(a, 0, 9)) return refuse(-2);
        if (now.people.size() == 8) return refuse(-6);
        now.people.add(new Person(now.people.size(), kind, grip, weight, a));
        now.chains.get(chain).add(now.people.size() - 1);
        return now.people.size() - 1;
    }

    int tell(int one, int what, int v) {
        if (!who(one) || !in(what, 0, 2) || !in(v, 0, 20)) return refuse(-2);
        Person p = now.people.get(one);
        int was = what == 0 ? p.grip : what == 1 ? p.weight : p.tired;
        if (what == 0) p.grip = v;
        if (what == 1) p.weight = v;
        if (what == 2) p.tired = v;
        return was;
    }

    int ask(int what, int v) {
        int[][] bounds = {{0, 30}, {1, 10}, {0, 1}, {1, 99}, {0, 1}};
        if (!in(what, 0, 4) || !in(v, bounds[what][0], bounds[what][1])) return refuse(-2);
        int[] was = {now.yards, now.spread, now.wrists, now.bell, now.turn};
        if (what == 0) now.yards = v;
        if (what == 1) now.spread = v;
        if (what == 2) now.wrists = v;
        if (what == 3) now.bell = v;
        if (what == 4) now.turn = v;
        return was[what];
    }

    int feed(int letter) {
        if (!in(letter, 0, 255)) return refuse(-2);
        if (tape.size() == 250) return refuse(-6);
        tape.add(letter);
        return tape.size();
    }

    int wipe() {
        int n = tape.size();
        tape.clear();
        return n;
    }

    // ---- the tape: all tokens ahead of all reading; each {place, text}; the end is an empty text

    private List<Object[]> tokens() {
        StringBuilder b = new StringBuilder();
        for (int c : tape) b.append((char) c);
        String text = b.toString();
        List<Object[]> l = new ArrayList<>();
        java.util.regex.Matcher m = java.util.regex.Pattern.compile("[a-z]+|[0-9]+|[^ ]", java.util.regex.Pattern.DOTALL).matcher(text);
        while (m.find()) l.add(new Object[] {m.start(), m.group()});
        l.add(new Object[] {text.length(), ""});
        return l;
    }

    private List<Object[]> toks;
    private int pos;

    private String text() {
        return (String) toks.get(pos)[1];
    }

    private int place() {
        return (Integer) toks.get(pos)[0];
    }

    private int num(int low, int high) {
        if (!text().matches("[0-9]{1,2}")) throw new Fault(place());
        int v = Integer.parseInt(text());
        if (!in(v, low, high)) throw new Fault(place());
        pos++;
        return v;
    }

    int yard() {
        State before = now.twin();
        toks = tokens();
        tape.clear();
        pos = 0;
        try {
            int n = 0;
            while (true) {
                statement();
                n++;
                if (text().isEmpty()) return n;
                if (!text().equals(";")) throw new Fault(place());
                pos++;
            }
        } catch (Fault f) {
            now = before;
            refuse(-2);
            return -20 - f.place;
        }
    }

    private void statement() {
        String word = text();
        int at = place();
        pos++;
        if (word.equals("one")) {
            if (now.people.size() == 8) throw new Fault(at);
            one(num(0, 1), num(0, 5), num(0, 20), num(0, 20), num(0, 9));
        } else if (word.equals("tired")) {
            now.people.get(num(0, now.people.size() - 1)).tired = num(0, 20);
        } else if (word.equals("yards")) {
            now.yards = num(0, 30);
        } else if (word.equals("spread")) {
            now.spread = num(1, 10);
        } else if (word.equals("wrists")) {
            now.wrists = num(0, 1);
        } else if (word.equals("bell")) {
            now.bell = num(1, 99);
        } else if (word.equals("run")) {
            int p = place();
            int i = num(0, now.people.size() - 1);
            if (now.over() || now.chainOf(i) == now.turn) throw new Fault(p);
            int j = num(0, now.callers().size() - 2);
            int behind = place();
            if (text().matches("[0-9]+")) {
                int side = num(0, 1);
                if (now.odds(i, j) == 0) throw new Fault(behind);
                now.pass(i, j, side);
            } else {
                if (now.odds(i, j) == 1_000_000) throw new Fault(behind);
                now.pass(i, j, -1);
            }
        } else {
            throw new Fault(at);
        }
    }

    // ---- asked

    int oneOf(int one, int what) {
        if (!who(one) || !in(what, 0, 7)) return refuse(-2);
        Person p = now.people.get(one);
        int c = now.chainOf(one);
        return new int[] {p.kind, p.grip, p.weight, p.tired, p.a, c, now.chains.get(c).indexOf(one), now.force(one)}[what];
    }

    int chainOf(int chain, int place) {
        if (!in(chain, 0, 1) || !in(place, -1, now.chains.get(chain).size() - 1)) return refuse(-2);
        return place == NONE ? now.chains.get(chain).size() : now.chains.get(chain).get(place);
    }

    int strength(int chain, int joint) {
        if (!in(chain, 0, 1) || !in(joint, 0, now.chains.get(chain).size() - 2)) return refuse(-2);
        return now.strengths(now.chains.get(chain)).get(joint);
    }

    int weakest(int chain) {
        if (!in(chain, 0, 1)) return refuse(-2);
        List<Integer> l = now.strengths(now.chains.get(chain));
        return l.isEmpty() ? refuse(-5) : l.indexOf(Collections.min(l));
    }

    int strongest(int chain) {
        if (!in(chain, 0, 1)) return refuse(-2);
        List<Integer> l = now.strengths(now.chains.get(chain));
        return l.isEmpty() ? refuse(-5) : l.indexOf(Collections.max(l));
    }

    int hardest(int chain) {
        if (!in(chain, 0, 1)) return refuse(-2);
        int who = NONE;
        for (int i : now.chains.get(chain)) if (who == NONE || now.force(i) > now.force(who)) who = i;
        return who == NONE ? refuse(-5) : who;
    }

    private int runnerFault(int one, int joint) {
        if (!who(one) || !now.joint(joint)) return -2;
        return now.chainOf(one) == now.turn ? -5 : 0;
    }

    int odds(int one, int joint) {
        int f = runnerFault(one, joint);
        return f != 0 ? refuse(f) : now.odds(one, joint);
    }

    int at(int one) {
        if (!who(one)) return refuse(-2);
        return now.over() || now.chainOf(one) == now.turn ? refuse(-5) : now.at(one);
    }

    int take(int joint) {
        return now.joint(joint) ? now.take(joint) : refuse(-2);
    }

    int call() {
        return now.over() ? refuse(-5) : now.call(0);
    }

    int won() {
        return now.won();
    }

    int over() {
        return now.over() ? 1 : 0;
    }

    private List<State> played(int rule) {
        List<State> l = new ArrayList<>();
        State s = now.twin();
        l.add(s.twin());
        while (!s.over()) {
            int i = s.call(rule);
            int j = s.at(i);
            s.pass(i, j, s.odds(i, j) >= 500_000 ? s.take(j) : -1);
            l.add(s.twin());
        }
        return l;
    }

    int play(int rule, int what) {
        if (!in(rule, 0, 1) || !in(what, 0, 2)) return refuse(-2);
        List<State> l = played(rule);
        State end = l.get(l.size() - 1);
        return what == 0 ? end.won() : what == 1 ? l.size() - 1 : end.chains.get(0).size();
    }

    int leads(int rule) {
        if (!in(rule, 0, 1)) return refuse(-2);
        List<Integer> led = new ArrayList<>();
        List<State> l = played(rule);
        for (State s : l.subList(1, l.size())) if (s.more() != 0) led.add(s.more());
        int n = 0;
        for (int k = 1; k < led.size(); k++) if (!led.get(k).equals(led.get(k - 1))) n++;
        return n;
    }

    private static void allOrders(List<Integer> done, List<Integer> left, List<List<Integer>> into) {
        if (left.isEmpty()) into.add(done);
        for (int i : left) {
            List<Integer> d = new ArrayList<>(done), l = new ArrayList<>(left);
            d.add(i);
            l.remove(Integer.valueOf(i));
            allOrders(d, l, into);
        }
    }

    private List<List<Integer>> orders(int chain) {
        List<Integer> sorted = new ArrayList<>(now.chains.get(chain));
        Collections.sort(sorted);
        List<List<Integer>> into = new ArrayList<>();
        allOrders(new ArrayList<>(), sorted, into);
        return into;
    }

    private List<Integer> stood(int chain) {
        List<Integer> best = null;
        int most = -1;
        for (List<Integer> o : orders(chain)) {
            int least = now.least(o);
            if (best == null || least > most) {
                best = o;
                most = least;
            }
        }
        return best;
    }

    int stand(int chain, int i) {
        if (!in(chain, 0, 1) || !in(i, -1, now.chains.get(chain).size() - 1)) return refuse(-2);
        if (now.chains.get(chain).size() > 7) return refuse(-6);
        List<Integer> l = stood(chain);
        return i == NONE ? now.least(l) : l.get(i);
    }

    int worth(int chain) {
        if (!in(chain, 0, 1)) return refuse(-2);
        if (now.chains.get(chain).size() > 7) return refuse(-6);
        return now.least(stood(chain)) - now.least(now.chains.get(chain));
    }

    int best(int chain) {
        if (!in(chain, 0, 1)) return refuse(-2);
        if (now.chains.get(chain).size() > 7) return refuse(-6);
        now.chains.set(chain, stood(chain));
        return now.least(now.chains.get(chain));
    }

    int move(int one, int place) {
        if (!who(one)) return refuse(-2);
        List<Integer> l = now.chains.get(now.chainOf(one));
        if (!in(place, 0, l.size() - 1)) return refuse(-2);
        int was = l.indexOf(one);
        l.remove(was);
        l.add(place, one);
        return was;
    }

    int pair() {
        int n = now.people.size();
        if (n < 2) return refuse(-5);
        int best = -1, most = -1;
        for (int i = 0; i < n; i++) {
            for (int j = i + 1; j < n; j++) {
                int h = now.hold(i, j) + now.hold(j, i);
                if (h > most) {
                    most = h;
                    best = 10 * i + j;
                }
            }
        }
        return best;
    }

    int tiredest() {
        int who = NONE;
        for (Person p : now.people) if (who == NONE || p.tired > now.people.get(who).tired) who = p.number;
        return who == NONE ? refuse(-5) : who;
    }

    int spreadFor(int one, int joint) {
        int f = runnerFault(one, joint);
        if (f != 0) return refuse(f);
        State s = now.twin();
        for (s.spread = 1; s.spread <= 10; s.spread++) if (s.odds(one, joint) > 0) return s.spread;
        return NONE;
    }

    int yardsFor(int one, int joint) {
        int f = runnerFault(one, joint);
        if (f != 0) return refuse(f);
        State s = now.twin();
        for (s.yards = 0; s.yards <= 30; s.yards++) if (s.odds(one, joint) == 1_000_000) return s.yards;
        return NONE;
    }

    /** What CHAIN 0 has more in the end, and who is called: the game without changing sides. */
    private static int[] zeroMore(State s, int d) {
        if (d == 0 || s.over()) return new int[] {s.chains.get(0).size() - s.chains.get(1).size(), NONE};
        int sign = s.turn == 0 ? 1 : -1;
        Integer best = null;
        int who = NONE;
        for (int i : s.calledByNumber()) {
            Integer worst = null;
            for (int j = 0; j < s.callers().size() - 1; j++) {
                for (int side = 0; side < 2; side++) {
                    State t = s.twin();
                    t.pass(i, j, s.odds(i, j) > 0 ? side : -1);
                    int v = zeroMore(t, d - 1)[0];
                    if (worst == null || sign * v < sign * worst) worst = v;
                }
            }
            if (best == null || sign * worst > sign * best) {
                best = worst;
                who = i;
            }
        }
        return new int[] {best, who};
    }

    int game(int d) {
        if (!in(d, 0, 2)) return -1000 + refuse(-2);
        if (now.over()) return -1000 + refuse(-5);
        State s = now.twin();
        s.spread = 1;
        int v = zeroMore(s, d)[0];
        return now.turn == 0 ? v : -v;
    }

    int first(int d) {
        if (!in(d, 1, 2)) return refuse(-2);
        if (now.over()) return refuse(-5);
        State s = now.twin();
        s.spread = 1;
        return zeroMore(s, d)[1];
    }

    int together(int chain) {
        if (!in(chain, 0, 1)) return refuse(-2);
        if (now.chains.get(chain).size() > 7) return refuse(-6);
        int n = 0;
        for (List<Integer> o : orders(chain)) {
            boolean side = false;
            for (int p = 1; p < o.size(); p++) {
                side |= now.people.get(o.get(p)).kind == 3 && now.people.get(o.get(p - 1)).kind == 3;
            }
            if (side) n++;
        }
        return n;
    }

    int swap(int chain, int what) {
        if (!in(chain, 0, 1) || !in(what, 0, 1)) return -1000 + refuse(-2);
        List<Integer> l = now.chains.get(chain);
        if (l.size() < 2) return -1000 + refuse(-5);
        List<Integer> leasts = new ArrayList<>();
        for (int p = 0; p < l.size() - 1; p++) {
            List<Integer> o = new ArrayList<>(l);
            Collections.swap(o, p, p + 1);
            leasts.add(now.least(o));
        }
        int most = Collections.max(leasts);
        return what == 0 ? leasts.indexOf(most) : most - now.least(l);
    }

    int could(int joint, int sure) {
        if (!now.joint(joint) || !in(sure, 0, 1)) return refuse(-2);
        int bits = 0;
        for (int i : now.called()) {
            if (sure == 0 ? now.odds(i, joint) > 0 : now.odds(i, joint) == 1_000_000) bits += 1 << i;
        }
        return bits;
    }

    private int bookFault(int s, int n) {
        if (!in(s, 0, 7) || !in(n, 0, 40)) return -2;
        if (shelves[s] instanceof Integer) return -3;
        if (shelves[s] == null) return -4;
        return ((long[]) shelves[s]).length < n ? -2 : 0;
    }

    private State behindBook;

    private int wrong(int s, int n) {
        State t = now.twin();
        for (int k = 0; k < n; k++) {
            long v = ((long[]) shelves[s])[k];
            boolean can = false;
            for (int i : new ArrayList<>(t.called())) {
                for (int j = 0; j < t.callers().size() - 1; j++) {
                    for (int end = 0; end < 3; end++) {
                        if (!can && !t.over() && v == 1000L * i + 100L * j + end
                                && (end == 0 ? t.odds(i, j) < 1_000_000 : t.odds(i, j) > 0)) {
                            can = true;
                            t.pass(i, j, end - 1);
                            v = -1;
                        }
                        if (can) break;
                    }
                    if (can) break;
                }
                if (can) break;
            }
            if (!can) return k;
        }
        behindBook = t;
        return NONE;
    }

    int judge(int s, int n) {
        int f = bookFault(s, n);
        return f != 0 ? refuse(f) : wrong(s, n);
    }

    int behind(int s, int n, int what) {
        int f = in(what, 0, 2) ? bookFault(s, n) : -2;
        if (f != 0) return refuse(f);
        if (wrong(s, n) != NONE) return refuse(-5);
        return what == 2 ? behindBook.won() : behindBook.chains.get(what).size();
    }

    int booked(int s, int n) {
        int f = bookFault(s, n);
        if (f != 0) return refuse(f);
        if (wrong(s, n) != NONE) return refuse(-5);
        now = behindBook;
        return now.runs;
    }

    int order(int chain, int s) {
        if (!in(s, 0, 7) || !in(chain, 0, 1)) return refuse(-2);
        int f = bookFault(s, now.chains.get(chain).size());
        if (f != 0) return refuse(f);
        List<Integer> told = new ArrayList<>();
        for (int k = 0; k < now.chains.get(chain).size(); k++) {
            long v = ((long[]) shelves[s])[k];
            if (!in(v, 0, 7)) return refuse(-2);
            told.add((int) v);
        }
        if (!orders(chain).contains(told)) return refuse(-2);
        now.chains.set(chain, told);
        return told.size();
    }

    int run(int one, int joint, int side) {
        if (!who(one) || !now.joint(joint) || !in(side, 0, 1)) return refuse(-2);
        if (now.over() || now.chainOf(one) == now.turn) return refuse(-5);
        return now.truth(one, joint, side) ? 1 : 0;
    }

    int runs(int n) {
        if (!in(n, 1, 40)) return refuse(-2);
        int torn = 0;
        for (int k = 0; k < n; k++) {
            if (now.over()) break;
            int i = now.call(0);
            int j = now.at(i);
            if (now.truth(i, j, now.take(j))) torn++;
        }
        return torn;
    }

    int rest(int n) {
        if (!in(n, 0, 20)) return refuse(-2);
        int fresh = 0;
        for (Person p : now.people) {
            p.tired = Math.max(0, p.tired - n);
            if (p.tired == 0) fresh++;
        }
        return fresh;
    }

    int again() {
        int was = now.runs;
        now.runs = 0;
        now.turn = 0;
        for (Person p : now.people) p.tired = 0;
        return was;
    }

    int seed(int v) {
        int was = now.seed;
        now.seed = v;
        return was;
    }

    int image() {
        kept = now.twin();
        return 1;
    }

    int back() {
        if (kept == null) return refuse(-5);
        now = kept.twin();
        for (int s = 0; s < 8; s++) if (shelves[s] instanceof Integer && !who((Integer) shelves[s])) shelves[s] = null;
        return 1;
    }

    int status(int what) {
        if (in(what, 12, 16)) return refusals[what - 10];
        if (!in(what, 0, 10)) return NONE;
        int tired = 0, held = 0;
        for (Person p : now.people) tired += p.tired;
        for (Object o : shelves) if (o != null) held++;
        return new int[] {now.people.size(), now.runs, now.turn, now.yards, now.spread, now.wrists, now.bell, tired,
            tape.size(), now.seed, held}[what];
    }
}
