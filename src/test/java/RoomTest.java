import java.lang.management.ManagementFactory;
import java.lang.reflect.Array;
import java.lang.reflect.Field;
import java.lang.reflect.Modifier;
import java.util.ArrayDeque;
import java.util.Collections;
import java.util.Deque;
import java.util.IdentityHashMap;
import java.util.Set;

/** All calls of one run live in one room: what an object takes of it, and that its calls make nothing. */
public final class RoomTest {
    /** Some 600,000 objects and 7.3 million fields and elements are the whole room: this leaves it to 1,000 objects at once. */
    private static final int MOST_OBJECTS = 600;
    private static final int MOST_ELEMENTS = 7300;
    private static final int ROUNDS = 2000;
    /** Far below one byte a call, but above what the measuring itself may take. */
    private static final long MOST_BYTES = 50_000;

    /** All answers together, so that no call can be left out as of no use. */
    private static long seen = 0;
    private static int wrong = 0;

    private static void tell(String what) {
        wrong++;
        System.out.println("RoomTest: " + what);
    }

    private static Set<Object> reached(Object from) throws IllegalAccessException {
        Set<Object> all = Collections.newSetFromMap(new IdentityHashMap<>());
        Deque<Object> open = new ArrayDeque<>();
        open.add(from);
        while (!open.isEmpty()) {
            Object o = open.remove();
            if (!all.add(o)) {
                continue;
            }
            if (o.getClass().isArray()) {
                for (int i = 0; i < Array.getLength(o) && !o.getClass().getComponentType().isPrimitive(); i++) {
                    if (Array.get(o, i) != null) {
                        open.add(Array.get(o, i));
                    }
                }
                continue;
            }
            for (Field f : o.getClass().getDeclaredFields()) {
                f.setAccessible(true);
                if (!Modifier.isStatic(f.getModifiers()) && !f.getType().isPrimitive() && f.get(o) != null) {
                    open.add(f.get(o));
                }
            }
        }
        return all;
    }

    private static int elements(Set<Object> all) {
        int elements = 0;
        for (Object o : all) {
            elements += o.getClass().isArray() ? Array.getLength(o) : fields(o.getClass());
        }
        return elements;
    }

    private static int fields(Class<?> c) {
        int fields = 0;
        for (Field f : c.getDeclaredFields()) {
            fields += Modifier.isStatic(f.getModifiers()) ? 0 : 1;
        }
        return fields;
    }

    private static void feed(ThroughTheChain x, String text) {
        for (int i = 0; i < text.length(); i++) {
            seen += x.feed(text.charAt(i));
        }
        seen += x.yard();
    }

    /** Every call at least once, with answers and with refusals; fewer than 512 calls in all. */
    private static void callAll(ThroughTheChain x) {
        feed(x, "one 0 0 8 9 0;one 0 3 6 7 2;one 0 3 5 6 1;one 1 4 9 14 3;one 1 5 8 8 0;spread 4;bell 99;run 3 0 1");
        feed(x, "oops");
        seen += x.again() + x.one(1, 1, 7, 9, 4) + x.one(1, 2, 12, 5, 0) + x.one(2, 0, 0, 0, 0) + x.tell(0, 2, 3);
        seen += x.ask(0, 12) + x.wipe() + x.image() + x.row(0, 2, 40) + x.set(0, 0, 3001) + x.row(1, 2, 9);
        seen += x.element(1, 1) + x.holds(0) + x.show(2, 1) + x.says(2, 3) + x.oneOf(1, 7) + x.chainOf(1, 0) + x.strength(1, 0);
        seen += x.weakest(1) + x.strongest(1) + x.copy(0, 1, 0, 1, 3);
        for (int c = 0; c < 3; c++) {
            seen += x.hardest(c) + x.play(c, 1) + x.leads(c) + x.stand(c, 0) + x.worth(c) + x.game(c) + x.first(c)
                + x.together(c) + x.swap(c, 1) + x.could(c, 0) + x.odds(c, 0)
                + x.at(c) + x.take(c) + x.spreadFor(c, 0) + x.yardsFor(c, 0);
        }
        seen += x.call() + x.won() + x.over() + x.pair() + x.tiredest() + x.move(0, 1) + x.judge(0, 1) + x.behind(0, 1, 0);
        seen += x.booked(0, 1) + x.order(0, 0) + x.best(1) + x.run(0, 0, 0) + x.runs(40) + x.rest(2) + x.seed(5) + x.back();
        seen += x.status(7);
    }

    private static void callsMakeNothing() throws IllegalAccessException {
        com.sun.management.ThreadMXBean meter = (com.sun.management.ThreadMXBean) ManagementFactory.getThreadMXBean();
        ThroughTheChain[] all = new ThroughTheChain[ROUNDS];
        for (int r = 0; r < ROUNDS; r++) {
            all[r] = new ThroughTheChain();
        }
        Set<Object> ahead = reached(all[0]);
        long thread = Thread.currentThread().getId();
        callAll(new ThroughTheChain());
        long before = meter.getThreadAllocatedBytes(thread);
        for (ThroughTheChain x : all) {
            callAll(x);
        }
        long made = meter.getThreadAllocatedBytes(thread) - before;
        if (made > MOST_BYTES) {
            tell("calls on " + ROUNDS + " objects made " + made + " bytes");
        }
        if (!ahead.equals(reached(all[0]))) {
            tell("an object has other parts behind its calls than it was made with");
        }
    }

    public static void main(String[] args) throws Exception {
        Set<Object> all = reached(new ThroughTheChain());
        int elements = elements(all);
        if (all.size() > MOST_OBJECTS || elements > MOST_ELEMENTS) {
            tell("an object takes too much room");
        }
        callsMakeNothing();
        System.out.println("RoomTest: an object is " + all.size() + " objects and arrays with " + elements
            + " fields and elements, " + wrong + " wrong");
        if (wrong != 0) {
            System.exit(1);
        }
    }
}
