/**
 * Through the chain: two rows of people stand hand in hand, and one row calls somebody of the other to run through it.
 * DOC.md says as numbered promises what every call answers; words in capitals here are that document's.
 */
public final class ThroughTheChain {
    public static final int NONE = -1;

    private static final int BAD = -2;
    private static final int OTHER = -3;
    private static final int NOTHING = -4;
    private static final int STUCK = -5;
    private static final int FULL = -6;
    private static final int FINE = 0;
    /** Calls that tell what may be below 0 answer their refusals this far down. */
    private static final int FAR = -1000;

    private static final int MOST_PEOPLE = 8;
    private static final int MOST_TO_ORDER = 7;
    private static final int MOST_LEVEL = 20;
    private static final int MOST_EXTRA = 9;
    private static final int MOST_YARDS = 30;
    private static final int MOST_SPREAD = 10;
    private static final int MOST_BELL = 99;
    private static final int MOST_TAPE = 250;
    private static final int MOST_ELEMENTS = 40;
    private static final int MOST_RUNS = 40;
    private static final int MOST_AHEAD = 2;
    private static final int SHELVES = 8;
    private static final int SORTS = 5;
    private static final int SOMEBODY = 10;

    private static final int HAND = 0;
    private static final int FIRM = 1;
    private static final int WEAK = 2;
    private static final int SISTER = 3;
    private static final int HEAVY = 4;
    private static final int SLY = 5;
    private static final int KINDS = 6;
    /** For each KIND the one that it is under. */
    private static final int[] ABOVE = {-1, 0, 0, 1, 0, 2};

    /** How a RUN ends, numbered as a BOOK does it. */
    private static final int HELD = 0;
    private static final int TORN_LEFT = 1;
    private static final int TORN_RIGHT = 2;

    private static final int SURE = 1000000;
    /** Above every STRENGTH, WEIGHT and ODDS. */
    private static final int HUGE = 1000000000;
    private static final int TORN_IN_PLAY = 500000;

    private final Yard now = new Yard();
    private final Yard kept = new Yard();
    private final Yard thought = new Yard();
    private final Player player = new Player(thought);
    private final Game ahead = new Game(thought);
    private final Orders orders = new Orders();
    private final Tape tape = new Tape();
    private final Shelf[] shelves = new Shelf[SHELVES];
    private final int[] refusals = new int[5];
    private boolean isKept;

    public ThroughTheChain() {
        for (int s = 0; s < SHELVES; s++) {
            shelves[s] = new Shelf();
        }
    }

    // ---- shelves and rows

    public int row(int s, int sort, int n) {
        if (!isShelf(s) || sort < 0 || sort >= SORTS || n < 0 || n > MOST_ELEMENTS) {
            return refuse(BAD);
        }
        shelves[s].putRow(sort, n);
        return 1;
    }

    public int set(int s, int i, long v) {
        int fault = faultOfRow(s, 0);
        if (fault != FINE) {
            return refuse(fault);
        }
        if (i < 0 || i >= shelves[s].size) {
            return refuse(BAD);
        }
        shelves[s].putElement(i, v);
        return 1;
    }

    public int copy(int p, int q, int i, int j, int n) {
        if (!isShelf(p) || !isShelf(q)) {
            return refuse(BAD);
        }
        Shelf from = shelves[p];
        Shelf to = shelves[q];
        boolean isNothing = from.held == NONE || to.held == NONE;
        if (from.isSomebody() || to.isSomebody() || !isNothing && from.held != to.held) {
            return refuse(OTHER);
        }
        if (isNothing) {
            return refuse(NOTHING);
        }
        if (!from.hasStretch(i, n) || !to.hasStretch(j, n)) {
            return refuse(BAD);
        }
        System.arraycopy(from.elements, i, to.elements, j, n);
        return n;
    }

    public long element(int s, int i) {
        if (!isShelf(s) || !shelves[s].isRow() || i < 0 || i >= shelves[s].size) {
            return 0;
        }
        return shelves[s].elements[i];
    }

    public int holds(int s) {
        return isShelf(s) ? shelves[s].held : NONE;
    }

    public int show(int s, int one) {
        if (!isShelf(s) || one != NONE && !now.has(one)) {
            return refuse(BAD);
        }
        shelves[s].held = one == NONE ? NONE : SOMEBODY + one;
        return 1;
    }

    public int says(int s, int kind) {
        if (!isShelf(s) || kind < 0 || kind >= KINDS) {
            return refuse(BAD);
        }
        if (shelves[s].held == NONE) {
            return refuse(NOTHING);
        }
        int one = shelves[s].held - SOMEBODY;
        if (!now.has(one) || !isUnder(now.kind[one], kind)) {
            return refuse(OTHER);
        }
        switch (kind) {
            case HAND:
                return now.home[one];
            case FIRM:
            case WEAK:
                return now.holdOf(one, NONE);
            case SISTER:
                return now.sistersIn(now.home[one]) - 1;
            default:
                return now.forceOf(one);
        }
    }

    // ---- the yard told and read

    public int one(int chain, int kind, int grip, int weight, int a) {
        if (!isChain(chain) || kind < 0 || kind >= KINDS || !isLevel(grip) || !isLevel(weight)
                || a < 0 || a > MOST_EXTRA) {
            return refuse(BAD);
        }
        if (now.people >= MOST_PEOPLE) {
            return refuse(FULL);
        }
        return now.add(chain, kind, grip, weight, a);
    }

    public int tell(int one, int what, int v) {
        if (!now.has(one) || what < 0 || what > 2 || !isLevel(v)) {
            return refuse(BAD);
        }
        int[] told = what == 0 ? now.grip : what == 1 ? now.weight : now.tired;
        int was = told[one];
        told[one] = v;
        return was;
    }

    public int ask(int what, int v) {
        if (!mayBeAsked(what, v)) {
            return refuse(BAD);
        }
        int was;
        switch (what) {
            case 0:
                was = now.yards;
                now.yards = v;
                break;
            case 1:
                was = now.spread;
                now.spread = v;
                break;
            case 2:
                was = now.wrists;
                now.wrists = v;
                break;
            case 3:
                was = now.bell;
                now.bell = v;
                break;
            default:
                was = now.turn;
                now.turn = v;
                break;
        }
        return was;
    }

    public int feed(int letter) {
        if (letter < 0 || letter > 255) {
            return refuse(BAD);
        }
        if (tape.size >= MOST_TAPE) {
            return refuse(FULL);
        }
        return tape.append(letter);
    }

    public int wipe() {
        return tape.clear();
    }

    public int yard() {
        thought.becomeAs(now);
        int statements = tape.readInto(thought);
        tape.clear();
        if (tape.fault != NONE) {
            refuse(BAD);
            return -20 - tape.fault;
        }
        now.becomeAs(thought);
        return statements;
    }

    // ---- who and how strong

    public int oneOf(int one, int what) {
        if (!now.has(one)) {
            return refuse(BAD);
        }
        switch (what) {
            case 0:
                return now.kind[one];
            case 1:
                return now.grip[one];
            case 2:
                return now.weight[one];
            case 3:
                return now.tired[one];
            case 4:
                return now.extra[one];
            case 5:
                return now.home[one];
            case 6:
                return now.placeOf(one);
            case 7:
                return now.forceOf(one);
            default:
                return refuse(BAD);
        }
    }

    public int chainOf(int chain, int place) {
        if (!isChain(chain) || place != NONE && !now.hasPlace(chain, place)) {
            return refuse(BAD);
        }
        return place == NONE ? now.size[chain] : now.line[chain][place];
    }

    public int strength(int chain, int joint) {
        if (!isChain(chain) || !now.hasJoint(chain, joint)) {
            return refuse(BAD);
        }
        return now.strengthAt(chain, joint);
    }

    public int weakest(int chain) {
        if (!isChain(chain)) {
            return refuse(BAD);
        }
        if (now.size[chain] < 2) {
            return refuse(STUCK);
        }
        return now.weakestJoint(chain);
    }

    public int strongest(int chain) {
        if (!isChain(chain)) {
            return refuse(BAD);
        }
        if (now.size[chain] < 2) {
            return refuse(STUCK);
        }
        return now.strongestJoint(chain);
    }

    public int hardest(int chain) {
        if (!isChain(chain)) {
            return refuse(BAD);
        }
        if (now.size[chain] < 1) {
            return refuse(STUCK);
        }
        return now.mostForceful(chain);
    }

    public int odds(int one, int joint) {
        int fault = faultOfRunner(one, joint);
        return fault != FINE ? refuse(fault) : now.oddsOf(one, joint);
    }

    public int at(int one) {
        if (!now.has(one)) {
            return refuse(BAD);
        }
        if (!now.isCalled(one) || now.isOver()) {
            return refuse(STUCK);
        }
        return now.jointFor(one);
    }

    public int take(int joint) {
        if (!now.hasJoint(now.turn, joint)) {
            return refuse(BAD);
        }
        return now.sideTaken(joint);
    }

    public int call() {
        return now.isOver() ? refuse(STUCK) : now.whoIsCalled(0);
    }

    public int won() {
        return now.winner();
    }

    public int over() {
        return now.isOver() ? 1 : 0;
    }

    public int play(int rule, int what) {
        if (!isRule(rule) || what < 0 || what > 2) {
            return refuse(BAD);
        }
        player.playFrom(now, rule);
        return what == 0 ? thought.winner() : what == 1 ? player.length : thought.size[0];
    }

    // ---- how to stand

    public int stand(int chain, int i) {
        if (!isChain(chain) || i != NONE && !now.hasPlace(chain, i)) {
            return refuse(BAD);
        }
        if (now.size[chain] > MOST_TO_ORDER) {
            return refuse(FULL);
        }
        int least = orders.findBest(now, chain);
        return i == NONE ? least : orders.found[i];
    }

    public int worth(int chain) {
        if (!isChain(chain)) {
            return refuse(BAD);
        }
        if (now.size[chain] > MOST_TO_ORDER) {
            return refuse(FULL);
        }
        return orders.findBest(now, chain) - now.leastStrength(chain);
    }

    public int move(int one, int place) {
        if (!now.has(one) || !now.hasPlace(now.home[one], place)) {
            return refuse(BAD);
        }
        int was = now.placeOf(one);
        int chain = now.home[one];
        now.leave(one);
        now.enter(one, chain, place);
        return was;
    }

    public int pair() {
        return now.people < 2 ? refuse(STUCK) : now.firmestPair();
    }

    public int tiredest() {
        return now.people < 1 ? refuse(STUCK) : now.mostTired();
    }

    public int spreadFor(int one, int joint) {
        int fault = faultOfRunner(one, joint);
        if (fault != FINE) {
            return refuse(fault);
        }
        // The greatest number of a SPREAD is one below it and has to lift FORCE above STRENGTH.
        int least = Math.max(1, now.strengthAt(now.turn, joint) - now.forceOf(one) + 2);
        return least > MOST_SPREAD ? NONE : least;
    }

    public int yardsFor(int one, int joint) {
        int fault = faultOfRunner(one, joint);
        if (fault != FINE) {
            return refuse(fault);
        }
        // Only every third of YARDS counts, so the least is a multiple of 3.
        int withoutYards = now.forceOf(one) - now.yards / 3;
        int least = 3 * Math.max(0, now.strengthAt(now.turn, joint) + 1 - withoutYards);
        return least > MOST_YARDS ? NONE : least;
    }

    // ---- looking ahead

    public int leads(int rule) {
        if (!isRule(rule)) {
            return refuse(BAD);
        }
        player.playFrom(now, rule);
        return player.changes;
    }

    public int game(int d) {
        if (d < 0 || d > MOST_AHEAD) {
            return FAR + refuse(BAD);
        }
        if (now.isOver()) {
            return FAR + refuse(STUCK);
        }
        return ahead.valueFrom(now, d);
    }

    public int first(int d) {
        if (d < 1 || d > MOST_AHEAD) {
            return refuse(BAD);
        }
        if (now.isOver()) {
            return refuse(STUCK);
        }
        ahead.valueFrom(now, d);
        return ahead.chosen;
    }

    public int together(int chain) {
        if (!isChain(chain)) {
            return refuse(BAD);
        }
        if (now.size[chain] > MOST_TO_ORDER) {
            return refuse(FULL);
        }
        return ordersTogether(now.size[chain], now.sistersIn(chain));
    }

    public int swap(int chain, int what) {
        if (!isChain(chain) || what < 0 || what > 1) {
            return FAR + refuse(BAD);
        }
        if (now.size[chain] < 2) {
            return FAR + refuse(STUCK);
        }
        thought.becomeAs(now);
        int bestPlace = 0;
        int best = NONE;
        for (int place = 0; place < thought.size[chain] - 1; place++) {
            thought.changePlaces(chain, place);
            int least = thought.leastStrength(chain);
            thought.changePlaces(chain, place);
            if (least > best) {
                best = least;
                bestPlace = place;
            }
        }
        return what == 0 ? bestPlace : best - now.leastStrength(chain);
    }

    public int could(int joint, int sure) {
        if (!now.hasJoint(now.turn, joint) || sure < 0 || sure > 1) {
            return refuse(BAD);
        }
        int wanted = sure == 1 ? SURE : 1;
        int bits = 0;
        for (int one = 0; one < now.people; one++) {
            if (now.isCalled(one) && now.oddsOf(one, joint) >= wanted) {
                bits |= 1 << one;
            }
        }
        return bits;
    }

    // ---- books

    public int judge(int s, int n) {
        int fault = faultOfRow(s, n);
        return fault != FINE ? refuse(fault) : followBook(shelves[s], n);
    }

    public int behind(int s, int n, int what) {
        int fault = what < 0 || what > 2 ? BAD : faultOfRow(s, n);
        if (fault != FINE) {
            return refuse(fault);
        }
        if (followBook(shelves[s], n) != NONE) {
            return refuse(STUCK);
        }
        return what == 2 ? thought.winner() : thought.size[what];
    }

    public int booked(int s, int n) {
        int fault = faultOfRow(s, n);
        if (fault != FINE) {
            return refuse(fault);
        }
        if (followBook(shelves[s], n) != NONE) {
            return refuse(STUCK);
        }
        now.becomeAs(thought);
        return now.runs;
    }

    // ---- in truth

    public int order(int chain, int s) {
        int fault = isChain(chain) ? faultOfRow(s, now.size[chain]) : BAD;
        if (fault != FINE) {
            return refuse(fault);
        }
        if (!isOrderOf(chain, shelves[s].elements)) {
            return refuse(BAD);
        }
        int n = now.size[chain];
        for (int place = 0; place < n; place++) {
            now.line[chain][place] = (int) shelves[s].elements[place];
        }
        return n;
    }

    public int best(int chain) {
        if (!isChain(chain)) {
            return refuse(BAD);
        }
        if (now.size[chain] > MOST_TO_ORDER) {
            return refuse(FULL);
        }
        int least = orders.findBest(now, chain);
        System.arraycopy(orders.found, 0, now.line[chain], 0, now.size[chain]);
        return least;
    }

    public int run(int one, int joint, int side) {
        if (!now.has(one) || !now.hasJoint(now.turn, joint) || side < 0 || side > 1) {
            return refuse(BAD);
        }
        if (!now.isCalled(one) || now.isOver()) {
            return refuse(STUCK);
        }
        return now.runByDraw(one, joint, side) ? 1 : 0;
    }

    public int runs(int n) {
        if (n < 1 || n > MOST_RUNS) {
            return refuse(BAD);
        }
        int torn = 0;
        for (int i = 0; i < n && !now.isOver(); i++) {
            int one = now.whoIsCalled(0);
            int joint = now.jointFor(one);
            if (now.runByDraw(one, joint, now.sideTaken(joint))) {
                torn++;
            }
        }
        return torn;
    }

    public int rest(int n) {
        if (!isLevel(n)) {
            return refuse(BAD);
        }
        return now.restAll(n);
    }

    public int again() {
        int was = now.runs;
        now.runs = 0;
        now.turn = 0;
        now.restAll(MOST_LEVEL);
        return was;
    }

    public int seed(int v) {
        int was = now.seed;
        now.seed = v;
        return was;
    }

    public int image() {
        kept.becomeAs(now);
        isKept = true;
        return 1;
    }

    public int back() {
        if (!isKept) {
            return refuse(STUCK);
        }
        now.becomeAs(kept);
        for (int s = 0; s < SHELVES; s++) {
            if (shelves[s].isSomebody() && !now.has(shelves[s].held - SOMEBODY)) {
                shelves[s].held = NONE;
            }
        }
        return 1;
    }

    public int status(int what) {
        switch (what) {
            case 0:
                return now.people;
            case 1:
                return now.runs;
            case 2:
                return now.turn;
            case 3:
                return now.yards;
            case 4:
                return now.spread;
            case 5:
                return now.wrists;
            case 6:
                return now.bell;
            case 7:
                return now.allTired();
            case 8:
                return tape.size;
            case 9:
                return now.seed;
            case 10:
                return shelvesInUse();
            default:
                return what < 12 || what > 16 ? NONE : refusals[what - 12];
        }
    }

    // ---- what the calls share

    private int refuse(int why) {
        int counter = BAD - why;
        if (counter >= 0 && counter < refusals.length) {
            refusals[counter]++;
        }
        return why;
    }

    private static boolean isShelf(int s) {
        return s >= 0 && s < SHELVES;
    }

    private static boolean isChain(int chain) {
        return chain == 0 || chain == 1;
    }

    private static boolean isRule(int rule) {
        return rule == 0 || rule == 1;
    }

    private static boolean isLevel(int v) {
        return v >= 0 && v <= MOST_LEVEL;
    }

    private static boolean isUnder(int kind, int wanted) {
        int k = kind;
        for (int step = 0; step < KINDS && k >= 0 && k < KINDS; step++) {
            if (k == wanted) {
                return true;
            }
            k = ABOVE[k];
        }
        return false;
    }

    private static boolean mayBeAsked(int what, int v) {
        switch (what) {
            case 0:
                return v >= 0 && v <= MOST_YARDS;
            case 1:
                return v >= 1 && v <= MOST_SPREAD;
            case 3:
                return v >= 1 && v <= MOST_BELL;
            case 2:
            case 4:
                return v == 0 || v == 1;
            default:
                return false;
        }
    }

    /** Why SHELF s has no ROW of n elements at least, or FINE. */
    private int faultOfRow(int s, int n) {
        if (!isShelf(s) || n < 0 || n > MOST_ELEMENTS) {
            return BAD;
        }
        if (shelves[s].isSomebody()) {
            return OTHER;
        }
        if (!shelves[s].isRow()) {
            return NOTHING;
        }
        return shelves[s].size < n ? BAD : FINE;
    }

    /** Why one has no ODDS at a JOINT of the CHAIN that calls, or FINE. */
    private int faultOfRunner(int one, int joint) {
        if (!now.has(one) || !now.hasJoint(now.turn, joint)) {
            return BAD;
        }
        return now.isCalled(one) ? FINE : STUCK;
    }

    /** The first WRONG run of a BOOK, or NONE; the yard in thought is then as it is behind the BOOK. */
    private int followBook(Shelf book, int n) {
        thought.becomeAs(now);
        for (int i = 0; i < n && i < book.size; i++) {
            long told = book.elements[i];
            if (told < 0 || told >= 1000L * MOST_PEOPLE) {
                return i;
            }
            int one = (int) told / 1000;
            int joint = (int) told / 100 % 10;
            int end = (int) told % 100;
            if (end > TORN_RIGHT || !thought.mayRun(one, joint) || !thought.canEnd(one, joint, end)) {
                return i;
            }
            thought.comeToPass(one, joint, end);
        }
        return NONE;
    }

    private boolean isOrderOf(int chain, long[] numbers) {
        int seen = 0;
        for (int place = 0; place < now.size[chain]; place++) {
            long told = numbers[place];
            if (told < 0 || told >= now.people || now.home[(int) told] != chain) {
                return false;
            }
            int bit = 1 << (int) told;
            if ((seen & bit) != 0) {
                return false;
            }
            seen |= bit;
        }
        return true;
    }

    /**
     * Counted by its opposite: the others stand in any order, and the SISTERS choose different gaps between them. The
     * product is 0 by itself where there are fewer gaps than SISTERS.
     */
    private static int ordersTogether(int n, int sisters) {
        int all = 1;
        for (int i = 2; i <= n; i++) {
            all *= i;
        }
        int others = n - sisters;
        int apart = 1;
        for (int i = 2; i <= others; i++) {
            apart *= i;
        }
        for (int i = 0; i < sisters; i++) {
            apart *= others + 1 - i;
        }
        return all - apart;
    }

    private int shelvesInUse() {
        int used = 0;
        for (int s = 0; s < SHELVES; s++) {
            if (shelves[s].held != NONE) {
                used++;
            }
        }
        return used;
    }

    /** One SHELF. Its elements are made once, so that new ROWS cost no room. */
    private static final class Shelf {
        final long[] elements = new long[MOST_ELEMENTS];
        /** What holds() answers of it. */
        int held = NONE;
        int size;

        boolean isRow() {
            return held >= 0 && held < SORTS;
        }

        boolean isSomebody() {
            return held >= SOMEBODY;
        }

        void putRow(int sort, int n) {
            held = sort;
            size = n;
            for (int i = 0; i < MOST_ELEMENTS; i++) {
                elements[i] = 0;
            }
        }

        void putElement(int i, long v) {
            switch (held) {
                case 0:
                    elements[i] = (byte) v;
                    break;
                case 1:
                    elements[i] = (short) v;
                    break;
                case 2:
                    elements[i] = (int) v;
                    break;
                case 3:
                    elements[i] = v;
                    break;
                default:
                    elements[i] = v != 0 ? 1 : 0;
                    break;
            }
        }

        /** Written with a difference, since a sum of two ints could wrap. */
        boolean hasStretch(int from, int n) {
            return from >= 0 && n >= 0 && n <= size && from <= size - n;
        }
    }

    /** A yard as it is, was kept, or is thought to become: its PEOPLE, both CHAINS and what is agreed on. */
    private static final class Yard {
        final int[] kind = new int[MOST_PEOPLE];
        final int[] grip = new int[MOST_PEOPLE];
        final int[] weight = new int[MOST_PEOPLE];
        final int[] tired = new int[MOST_PEOPLE];
        final int[] extra = new int[MOST_PEOPLE];
        /** The CHAIN of each, as line has it too. */
        final int[] home = new int[MOST_PEOPLE];
        final int[][] line = new int[2][MOST_PEOPLE];
        final int[] size = new int[2];
        int people;
        int yards = 9;
        int spread = 1;
        int wrists;
        int bell = 20;
        int turn;
        int runs;
        int seed = 1;

        void becomeAs(Yard from) {
            System.arraycopy(from.kind, 0, kind, 0, MOST_PEOPLE);
            System.arraycopy(from.grip, 0, grip, 0, MOST_PEOPLE);
            System.arraycopy(from.weight, 0, weight, 0, MOST_PEOPLE);
            System.arraycopy(from.tired, 0, tired, 0, MOST_PEOPLE);
            System.arraycopy(from.extra, 0, extra, 0, MOST_PEOPLE);
            System.arraycopy(from.home, 0, home, 0, MOST_PEOPLE);
            System.arraycopy(from.line[0], 0, line[0], 0, MOST_PEOPLE);
            System.arraycopy(from.line[1], 0, line[1], 0, MOST_PEOPLE);
            size[0] = from.size[0];
            size[1] = from.size[1];
            people = from.people;
            yards = from.yards;
            spread = from.spread;
            wrists = from.wrists;
            bell = from.bell;
            turn = from.turn;
            runs = from.runs;
            seed = from.seed;
        }

        // ---- who stands where

        boolean has(int one) {
            return one >= 0 && one < people;
        }

        boolean hasPlace(int chain, int place) {
            return place >= 0 && place < size[chain];
        }

        boolean hasJoint(int chain, int joint) {
            return joint >= 0 && joint < size[chain] - 1;
        }

        boolean isCalled(int one) {
            return home[one] != turn;
        }

        int add(int chain, int itsKind, int itsGrip, int itsWeight, int a) {
            int one = people;
            people++;
            kind[one] = itsKind;
            grip[one] = itsGrip;
            weight[one] = itsWeight;
            tired[one] = 0;
            extra[one] = a;
            enter(one, chain, size[chain]);
            return one;
        }

        void enter(int one, int chain, int place) {
            int[] row = line[chain];
            for (int p = size[chain]; p > place; p--) {
                row[p] = row[p - 1];
            }
            row[place] = one;
            size[chain]++;
            home[one] = chain;
        }

        void leave(int one) {
            int chain = home[one];
            int[] row = line[chain];
            int staying = 0;
            for (int p = 0; p < size[chain]; p++) {
                if (row[p] != one) {
                    row[staying] = row[p];
                    staying++;
                }
            }
            size[chain] = staying;
        }

        int placeOf(int one) {
            int[] row = line[home[one]];
            int place = 0;
            while (place < MOST_PEOPLE - 1 && row[place] != one) {
                place++;
            }
            return place;
        }

        void changePlaces(int chain, int place) {
            int[] row = line[chain];
            int left = row[place];
            row[place] = row[place + 1];
            row[place + 1] = left;
        }

        int sistersIn(int chain) {
            int sisters = 0;
            for (int place = 0; place < size[chain]; place++) {
                if (kind[line[chain][place]] == SISTER) {
                    sisters++;
                }
            }
            return sisters;
        }

        // ---- how strong, with which force, by what odds

        /** HOLD of one beside another, or beside nobody (NONE). */
        int holdOf(int one, int beside) {
            int rested = grip[one] > tired[one] ? grip[one] - tired[one] : 0;
            switch (kind[one]) {
                case FIRM:
                    return rested + extra[one];
                case SISTER:
                    return rested + extra[one] + (beside != NONE && kind[beside] == SISTER ? 5 : 0);
                case WEAK:
                case SLY:
                    return rested / 2;
                case HEAVY:
                    return rested + weight[one] / 4;
                default:
                    return rested;
            }
        }

        /** STRENGTH of a JOINT by the HOLD of both together. */
        int strengthBy(int holds, boolean isAtEnd) {
            int strength = wrists == 1 ? holds + 3 : holds;
            if (!isAtEnd) {
                return strength;
            }
            return strength > 2 ? strength - 2 : 0;
        }

        int strengthAt(int chain, int joint) {
            int left = line[chain][joint];
            int right = line[chain][joint + 1];
            return strengthBy(holdOf(left, right) + holdOf(right, left), joint == 0 || joint == size[chain] - 2);
        }

        int weakestJoint(int chain) {
            int weakest = 0;
            int least = HUGE;
            for (int joint = 0; joint < size[chain] - 1; joint++) {
                int strength = strengthAt(chain, joint);
                if (strength < least) {
                    least = strength;
                    weakest = joint;
                }
            }
            return weakest;
        }

        int strongestJoint(int chain) {
            int strongest = 0;
            int greatest = NONE;
            for (int joint = 0; joint < size[chain] - 1; joint++) {
                int strength = strengthAt(chain, joint);
                if (strength > greatest) {
                    greatest = strength;
                    strongest = joint;
                }
            }
            return strongest;
        }

        /** 0 where there is no JOINT. */
        int leastStrength(int chain) {
            int least = size[chain] < 2 ? 0 : strengthAt(chain, 0);
            for (int joint = 1; joint < size[chain] - 1; joint++) {
                least = Math.min(least, strengthAt(chain, joint));
            }
            return least;
        }

        int forceOf(int one) {
            int force = weight[one] + yards / 3;
            if (kind[one] == HEAVY) {
                return force + extra[one];
            }
            return kind[one] == SLY ? force + 2 : force;
        }

        int oddsAgainst(int one, int strength) {
            int above = forceOf(one) + spread - 1 - strength;
            if (above <= 0 || spread < 1) {
                return 0;
            }
            return above >= spread ? SURE : SURE * above / spread;
        }

        int oddsOf(int one, int joint) {
            return oddsAgainst(one, strengthAt(turn, joint));
        }

        int mostForceful(int chain) {
            int who = line[chain][0];
            for (int place = 1; place < size[chain]; place++) {
                if (forceOf(line[chain][place]) > forceOf(who)) {
                    who = line[chain][place];
                }
            }
            return who;
        }

        int firmestPair() {
            int firmest = 0;
            int most = NONE;
            for (int one = 0; one < people; one++) {
                for (int other = one + 1; other < people; other++) {
                    int both = holdOf(one, other) + holdOf(other, one);
                    if (both > most) {
                        most = both;
                        firmest = 10 * one + other;
                    }
                }
            }
            return firmest;
        }

        // ---- what is chosen

        /** AT of one: where ODDS are greatest. */
        int jointFor(int one) {
            int best = 0;
            int most = NONE;
            for (int joint = 0; joint < size[turn] - 1; joint++) {
                int odds = oddsOf(one, joint);
                if (odds > most) {
                    most = odds;
                    best = joint;
                }
            }
            return best;
        }

        /** TAKE at a JOINT of the CHAIN that calls. */
        int sideTaken(int joint) {
            int left = line[turn][joint];
            int right = line[turn][joint + 1];
            return holdOf(right, left) > holdOf(left, right) ? 1 : 0;
        }

        /** Rule 0 is CALL; its ODDS AT are those against the least STRENGTH, since less STRENGTH never lessens them. */
        int whoIsCalled(int rule) {
            int least = leastStrength(turn);
            int who = NONE;
            int lowest = HUGE;
            for (int one = 0; one < people; one++) {
                if (!isCalled(one)) {
                    continue;
                }
                int measure = rule == 0 ? oddsAgainst(one, least) : weight[one];
                if (measure < lowest) {
                    lowest = measure;
                    who = one;
                }
            }
            return who;
        }

        // ---- runs and what comes of them

        /** RUNS can be above BELL, if BELL was lowered; the play has ended then, too. */
        boolean isOver() {
            return size[0] < 2 || size[1] < 2 || runs >= bell;
        }

        int winner() {
            return isOver() ? leader() : NONE;
        }

        int leader() {
            if (size[0] == size[1]) {
                return NONE;
            }
            return size[0] > size[1] ? 0 : 1;
        }

        boolean mayRun(int one, int joint) {
            return !isOver() && has(one) && isCalled(one) && hasJoint(turn, joint);
        }

        boolean canEnd(int one, int joint, int end) {
            int odds = oddsAgainst(one, strengthAt(turn, joint));
            return end == HELD ? odds < SURE : odds > 0;
        }

        void comeToPass(int one, int joint, int end) {
            int left = line[turn][joint];
            int right = line[turn][joint + 1];
            tire(left);
            tire(right);
            leave(one);
            if (end == HELD) {
                enter(one, turn, joint + 1);
            } else {
                int own = 1 - turn;
                int taken = end == TORN_LEFT ? left : right;
                enter(one, own, size[own]);
                leave(taken);
                enter(taken, own, size[own]);
            }
            turn = 1 - turn;
            runs++;
        }

        boolean runByDraw(int one, int joint, int side) {
            boolean isTorn = forceOf(one) + drawBelow(spread) > strengthAt(turn, joint);
            comeToPass(one, joint, isTorn ? TORN_LEFT + side : HELD);
            return isTorn;
        }

        int drawBelow(int n) {
            seed = seed * 1103515245 + 12345;
            return n < 1 ? 0 : (seed >>> 16) % n;
        }

        // ---- tired hands

        void tire(int one) {
            if (tired[one] < MOST_LEVEL) {
                tired[one]++;
            }
        }

        /** A REST of n; how many aren't TIRED then. */
        int restAll(int n) {
            int fresh = 0;
            for (int one = 0; one < people; one++) {
                tired[one] = Math.max(0, tired[one] - n);
                if (tired[one] == 0) {
                    fresh++;
                }
            }
            return fresh;
        }

        int allTired() {
            int all = 0;
            for (int one = 0; one < people; one++) {
                all += tired[one];
            }
            return all;
        }

        int mostTired() {
            int who = 0;
            for (int one = 1; one < people; one++) {
                if (tired[one] > tired[who]) {
                    who = one;
                }
            }
            return who;
        }
    }

    /** PLAYS by rules to their end, in a yard that is only thought. */
    private static final class Player {
        private final Yard yard;
        int length;
        int changes;

        Player(Yard yard) {
            this.yard = yard;
        }

        void playFrom(Yard from, int rule) {
            yard.becomeAs(from);
            length = 0;
            changes = 0;
            int ledLast = NONE;
            for (int i = 0; i < MOST_BELL && !yard.isOver(); i++) {
                int one = yard.whoIsCalled(rule);
                int joint = yard.jointFor(one);
                boolean isTorn = yard.oddsOf(one, joint) >= TORN_IN_PLAY;
                yard.comeToPass(one, joint, isTorn ? TORN_LEFT + yard.sideTaken(joint) : HELD);
                length++;
                int leads = yard.leader();
                if (leads != NONE) {
                    changes += ledLast != NONE && ledLast != leads ? 1 : 0;
                    ledLast = leads;
                }
            }
        }
    }

    /** GAME: the next runs, each as the CHAIN that calls and the runner's CHAIN like them best. */
    private static final class Game {
        /** By how many runs are still to come. */
        private final Yard[] yards = new Yard[MOST_AHEAD + 1];
        int chosen;

        Game(Yard spare) {
            yards[0] = spare;
            for (int d = 1; d <= MOST_AHEAD; d++) {
                yards[d] = new Yard();
            }
        }

        int valueFrom(Yard from, int d) {
            yards[d].becomeAs(from);
            return mostByCall(d);
        }

        /** What the CHAIN whose TURN it is has more than the other when d runs more have been. */
        private int mostByCall(int d) {
            Yard yard = yards[d];
            if (d <= 0 || yard.isOver()) {
                return yard.size[yard.turn] - yard.size[1 - yard.turn];
            }
            int most = -MOST_PEOPLE - 1;
            int who = NONE;
            for (int one = 0; one < yard.people; one++) {
                int value = yard.isCalled(one) ? leastByRun(one, d) : most;
                if (value > most) {
                    most = value;
                    who = one;
                }
            }
            // The first call is the last to be settled, so it is the one that stays.
            chosen = who;
            return most;
        }

        /** SPREAD is as if it were 1, so FORCE alone settles how a run ends. */
        private int leastByRun(int one, int d) {
            Yard yard = yards[d];
            int force = yard.forceOf(one);
            int least = MOST_PEOPLE + 1;
            for (int joint = 0; joint < yard.size[yard.turn] - 1; joint++) {
                if (force > yard.strengthAt(yard.turn, joint)) {
                    least = Math.min(least, valueBehind(one, joint, TORN_LEFT, d));
                    least = Math.min(least, valueBehind(one, joint, TORN_RIGHT, d));
                } else {
                    least = Math.min(least, valueBehind(one, joint, HELD, d));
                }
            }
            return least;
        }

        private int valueBehind(int one, int joint, int end, int d) {
            if (d < 1) {
                return 0;
            }
            yards[d - 1].becomeAs(yards[d]);
            yards[d - 1].comeToPass(one, joint, end);
            // TURN is the other's then, who counts the same difference from the other side.
            return -mostByCall(d - 1);
        }
    }

    /** STAND: all orders of a CHAIN, tried by rows of numbers, so that the first of several best is found first. */
    private static final class Orders {
        final int[] found = new int[MOST_PEOPLE];
        private final int[] trial = new int[MOST_PEOPLE];
        private final boolean[] isPlaced = new boolean[MOST_PEOPLE];
        private Yard yard;
        private int chain;
        private int best;

        /** The least STRENGTH of the best order, which stands in found then; for a CHAIN of 7 at most. */
        int findBest(Yard of, int itsChain) {
            System.arraycopy(of.line[itsChain], 0, found, 0, MOST_PEOPLE);
            if (of.size[itsChain] < 2 || of.size[itsChain] > MOST_TO_ORDER) {
                return 0;
            }
            yard = of;
            chain = itsChain;
            best = NONE;
            for (int one = 0; one < MOST_PEOPLE; one++) {
                isPlaced[one] = false;
            }
            fillFrom(0, HUGE);
            return best;
        }

        /** An order whose least STRENGTH can't be above the best any more is not followed to its end. */
        private void fillFrom(int place, int least) {
            int n = yard.size[chain];
            if (place >= n) {
                best = least;
                System.arraycopy(trial, 0, found, 0, n);
                return;
            }
            for (int one = 0; one < yard.people; one++) {
                if (isPlaced[one] || yard.home[one] != chain) {
                    continue;
                }
                int leastWith = place == 0 ? least : Math.min(least, strengthBehind(place, one));
                if (leastWith > best) {
                    trial[place] = one;
                    isPlaced[one] = true;
                    fillFrom(place + 1, leastWith);
                    isPlaced[one] = false;
                }
            }
        }

        private int strengthBehind(int place, int one) {
            int left = trial[place - 1];
            boolean isAtEnd = place == 1 || place == yard.size[chain] - 1;
            return yard.strengthBy(yard.holdOf(left, one) + yard.holdOf(one, left), isAtEnd);
        }
    }

    /** THE TAPE, and how a YARD is read from it. */
    private static final class Tape {
        private static final int ENDED = 0;
        private static final int WORD = 1;
        private static final int NUMBER = 2;
        private static final int SIGN = 3;
        private static final int STRANGE = 4;

        private final int[] bytes = new int[MOST_TAPE];
        int size;
        /** The FAULT, or NONE; behind the first nothing more is read. */
        int fault = NONE;
        private int token;
        private int start;
        private int end;

        int append(int letter) {
            if (size < MOST_TAPE) {
                bytes[size] = letter;
                size++;
            }
            return size;
        }

        int clear() {
            int was = size;
            size = 0;
            return was;
        }

        /** How many STATEMENTS; if fault isn't NONE then, the yard is to be thrown away. */
        int readInto(Yard yard) {
            fault = NONE;
            end = 0;
            toNextToken();
            for (int statements = 1; statements <= MOST_TAPE; statements++) {
                readStatement(yard);
                if (fault != NONE || token == ENDED) {
                    return statements;
                }
                if (token != SIGN) {
                    fault = start;
                    return statements;
                }
                toNextToken();
            }
            return 0;
        }

        private void readStatement(Yard yard) {
            if (isWord("one")) {
                readOne(yard);
            } else if (isWord("tired")) {
                readTired(yard);
            } else if (isWord("run")) {
                readRun(yard);
            } else if (isWord("yards")) {
                yard.yards = numberBehindWord(0, MOST_YARDS);
            } else if (isWord("spread")) {
                yard.spread = numberBehindWord(1, MOST_SPREAD);
            } else if (isWord("wrists")) {
                yard.wrists = numberBehindWord(0, 1);
            } else if (isWord("bell")) {
                yard.bell = numberBehindWord(1, MOST_BELL);
            } else {
                fault = start;
            }
        }

        private void readOne(Yard yard) {
            if (yard.people >= MOST_PEOPLE) {
                fault = start;
                return;
            }
            toNextToken();
            int chain = number(0, 1);
            int kind = number(0, KINDS - 1);
            int grip = number(0, MOST_LEVEL);
            int weight = number(0, MOST_LEVEL);
            int extra = number(0, MOST_EXTRA);
            if (fault == NONE) {
                yard.add(chain, kind, grip, weight, extra);
            }
        }

        private void readTired(Yard yard) {
            toNextToken();
            int one = number(0, yard.people - 1);
            int tired = number(0, MOST_LEVEL);
            if (fault == NONE) {
                yard.tired[one] = tired;
            }
        }

        private void readRun(Yard yard) {
            toNextToken();
            int oneStart = start;
            int one = number(0, yard.people - 1);
            if (fault == NONE && (yard.isOver() || !yard.isCalled(one))) {
                fault = oneStart;
            }
            int joint = number(0, yard.size[yard.turn] - 2);
            // A run that must be TORN has its FAULT where the side is missing.
            int sideStart = start;
            int howItEnds = token == NUMBER ? TORN_LEFT + number(0, 1) : HELD;
            if (fault != NONE) {
                return;
            }
            if (!yard.canEnd(one, joint, howItEnds)) {
                fault = sideStart;
                return;
            }
            yard.comeToPass(one, joint, howItEnds);
        }

        private int numberBehindWord(int low, int high) {
            toNextToken();
            return number(low, high);
        }

        /** The NUMBER that stands here, low to high (not below 0); NONE with a FAULT. */
        private int number(int low, int high) {
            if (fault != NONE) {
                return NONE;
            }
            int value = token == NUMBER ? valueOfToken() : NONE;
            if (value < low || value > high) {
                fault = start;
                return NONE;
            }
            toNextToken();
            return value;
        }

        /** NONE: more than 2 digits. */
        private int valueOfToken() {
            if (end - start > 2) {
                return NONE;
            }
            int value = 0;
            for (int i = start; i < end; i++) {
                value = 10 * value + bytes[i] - '0';
            }
            return value;
        }

        private boolean isWord(String word) {
            if (token != WORD || end - start != word.length()) {
                return false;
            }
            for (int i = 0; i < word.length(); i++) {
                if (bytes[start + i] != word.charAt(i)) {
                    return false;
                }
            }
            return true;
        }

        private void toNextToken() {
            start = end;
            while (start < size && bytes[start] == ' ') {
                start++;
            }
            token = start < size ? sortOf(bytes[start]) : ENDED;
            end = start;
            if (token == WORD || token == NUMBER) {
                while (end < size && sortOf(bytes[end]) == token) {
                    end++;
                }
            } else if (token != ENDED) {
                end++;
            }
        }

        private static int sortOf(int letter) {
            if (letter >= 'a' && letter <= 'z') {
                return WORD;
            }
            if (letter >= '0' && letter <= '9') {
                return NUMBER;
            }
            return letter == ';' ? SIGN : STRANGE;
        }
    }
}
