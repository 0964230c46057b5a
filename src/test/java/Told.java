import java.lang.reflect.InvocationTargetException;
import java.lang.reflect.Method;
import java.lang.reflect.Modifier;
import java.util.ArrayList;
import java.util.HashMap;
import java.util.List;
import java.util.Map;
import java.util.regex.Matcher;
import java.util.regex.Pattern;

/**
 * A new object and calls on it that are told as a text, blanks between them:
 * <pre>
 *   row(0, 2, 5)          the call; NONE may stand for -1
 *   row(0, 2, 5) = 1      the call and the answer that is due
 *   line(0) = 1342        the PEOPLE of CHAIN 0 as digits behind a 1
 *   feed 'yards 3'        a feed for each letter
 *   read 'yards 3' = 1    a feed for each letter, then yard()
 *   fill 0 3: 7 8 9       SHELF 0 holds a ROW of SORT 3 with these elements
 * </pre>
 */
final class Told {
    /** The document says nothing about an object behind this many calls. */
    static final int MOST_CALLS = 512;

    private static final Pattern STEP = Pattern.compile(
        "\\s*(?:(\\w+)\\(([^)]*)\\)|(feed|read) '([^']*)'|fill (\\d) (\\d):((?: -?\\d+)*))(?: = (-?\\d+))?", Pattern.DOTALL);
    private static final Map<String, Method> FACE = face(ThroughTheChain.class);
    private static final Map<String, Method> MODEL = face(Model.class);

    final List<String> wrong = new ArrayList<>();
    private final Object x;
    private final Map<String, Method> face;
    private int calls = 0;

    Told() {
        x = new ThroughTheChain();
        face = FACE;
    }

    /** The same calls on the model. */
    Told(Model model) {
        x = model;
        face = MODEL;
    }

    private static Map<String, Method> face(Class<?> of) {
        Map<String, Method> face = new HashMap<>();
        for (Method m : of.getDeclaredMethods()) {
            if (!Modifier.isPrivate(m.getModifiers())) {
                face.put(m.getName(), m);
            }
        }
        return face;
    }

    /** Each step of a text by itself. */
    static List<String> steps(String text) {
        List<String> steps = new ArrayList<>();
        Matcher m = STEP.matcher(text);
        int end = 0;
        while (m.find() && m.start() == end) {
            steps.add(m.group().strip());
            end = m.end();
        }
        if (!text.substring(end).isBlank()) {
            throw new IllegalArgumentException("not a step: " + text.substring(end));
        }
        return steps;
    }

    /** Makes all steps of a text; an answer that isn't the one that is due goes to what is wrong. */
    Told make(String text) {
        for (String step : steps(text)) {
            makeStep(step);
        }
        return this;
    }

    private void makeStep(String step) {
        Matcher m = STEP.matcher(step);
        if (!m.matches()) {
            throw new IllegalArgumentException("not a step: " + step);
        }
        long got;
        if (m.group(1) != null) {
            got = callTold(m.group(1), m.group(2));
        } else if (m.group(3) != null) {
            got = feedAll(m.group(3), m.group(4));
        } else {
            got = fill(Long.parseLong(m.group(5)), Long.parseLong(m.group(6)), m.group(7).strip());
        }
        if (m.group(8) != null && got != Long.parseLong(m.group(8))) {
            wrong.add(step + ": the answer was " + got);
        }
    }

    private long callTold(String name, String told) {
        String[] parts = told.isBlank() ? new String[0] : told.split(",");
        long[] numbers = new long[parts.length];
        for (int i = 0; i < parts.length; i++) {
            String part = parts[i].strip();
            numbers[i] = part.equals("NONE") ? -1 : Long.parseLong(part);
        }
        return name.equals("line") ? line(numbers[0]) : call(name, numbers);
    }

    private long feedAll(String how, String text) {
        long size = 0;
        for (int i = 0; i < text.length(); i++) {
            size = call("feed", text.charAt(i));
        }
        return how.equals("read") ? call("yard") : size;
    }

    private long fill(long s, long sort, String told) {
        String[] parts = told.isEmpty() ? new String[0] : told.split(" ");
        long answer = call("row", s, sort, parts.length);
        for (int i = 0; i < parts.length; i++) {
            call("set", s, i, Long.parseLong(parts[i]));
        }
        return answer;
    }

    private long line(long chain) {
        long line = 1;
        long n = call("chainOf", chain, -1);
        for (long p = 0; p < n; p++) {
            line = 10 * line + call("chainOf", chain, p);
        }
        return line;
    }

    long call(String name, long... numbers) {
        Method m = face.get(name);
        if (m == null || m.getParameterCount() != numbers.length) {
            throw new IllegalArgumentException("no such call: " + name + " with " + numbers.length);
        }
        calls++;
        if (calls > MOST_CALLS) {
            throw new IllegalArgumentException("the test makes more than " + MOST_CALLS + " calls");
        }
        Object[] given = new Object[numbers.length];
        for (int i = 0; i < numbers.length; i++) {
            if (m.getParameterTypes()[i] == int.class) {
                given[i] = Math.toIntExact(numbers[i]);
            } else {
                given[i] = numbers[i];
            }
        }
        try {
            return ((Number) m.invoke(x, given)).longValue();
        } catch (InvocationTargetException e) {
            wrong.add(name + " threw " + e.getCause());
            return Long.MIN_VALUE;
        } catch (IllegalAccessException e) {
            throw new IllegalStateException(e);
        }
    }

    // ---- what can be seen of the object

    List<Long> refusals() {
        List<Long> seen = new ArrayList<>();
        for (int what = 12; what <= 16; what++) {
            seen.add(call("status", what));
        }
        return seen;
    }

    List<Long> state() {
        List<Long> seen = new ArrayList<>();
        for (int what = 0; what <= 10; what++) {
            seen.add(call("status", what));
        }
        seen.add(line(0));
        seen.add(line(1));
        for (int one = 0; one < seen.get(0); one++) {
            for (int what = 0; what < 8; what++) {
                seen.add(call("oneOf", one, what));
            }
        }
        return seen;
    }

    List<Long> shelves(int from, int to) {
        List<Long> seen = new ArrayList<>();
        for (int s = from; s <= to; s++) {
            seen.add(call("holds", s));
            for (int i = 0; i < 40; i++) {
                seen.add(call("element", s, i));
            }
        }
        return seen;
    }

    /** THE TAPE can only be seen by what comes of it. */
    List<Long> behindYard() {
        List<Long> seen = new ArrayList<>();
        seen.add(call("yard"));
        seen.addAll(state());
        return seen;
    }

    /** What is kept can only be seen by going back to it. */
    List<Long> behindBack() {
        List<Long> seen = new ArrayList<>();
        seen.add(call("back"));
        seen.addAll(state());
        for (int s = 0; s < 8; s++) {
            seen.add(call("holds", s));
        }
        return seen;
    }
}
