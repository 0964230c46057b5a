import java.lang.reflect.Method;
import java.lang.reflect.Modifier;
import java.util.Set;
import java.util.TreeSet;
import java.util.function.Consumer;

/**
 * Goes through the document from its first word to its last and holds each sentence where it stands there, so that none
 * can be left out.
 */
final class Walk {
    private static final int SHOWN = 90;

    private final String text;
    private final Set<String> face = new TreeSet<>();
    private int at = 0;
    private int promises = 0;
    private int sentences = 0;
    private int failed = 0;

    Walk(String document) {
        text = Edges.flat(document);
    }

    /** Headings, and what the document leaves free: nothing is to be held there. */
    void passes(String words) {
        while (at < text.length() && text.charAt(at) == ' ') {
            at++;
        }
        if (text.startsWith(words, at)) {
            at += words.length();
            return;
        }
        fail("the document goes on with \"" + shown(text.substring(at)) + "\", not with \"" + words + "\"");
        at = text.indexOf(words, at) < 0 ? at : text.indexOf(words, at) + words.length();
    }

    void says(String sentence, Consumer<Edge> body) {
        passes(sentence);
        sentences++;
        if (!Edge.held(body).tell(shown(sentence), sentence)) {
            failed++;
        }
    }

    /** A promise's heading, whose number follows the last and whose call is one of the face. */
    void promise(int number, String signature) {
        String name = signature.substring(signature.indexOf(' ') + 1, signature.indexOf('('));
        passes("## Promise " + number + ": " + name + " " + signature + " :");
        if (number != promises + 1 || !face.contains(signature)) {
            fail("promise " + number + " isn't the next one, or its call is not of the face: " + signature);
        }
        promises = number;
    }

    /** Promise 1 is no call but the constructor. */
    void firstPromise() {
        passes("## Promise 1: A new object ThroughTheChain() :");
        promises = 1;
    }

    /** The public face, as the document's own lines have it, against the class. */
    void face(String heading) {
        int end = Math.max(at, text.indexOf(heading, at));
        String lines = text.substring(at, end).strip();
        String head = "java public final class ThroughTheChain {";
        at = end;
        sentences++;
        for (String line : lines.replace(head, "").replace("}", "").split(";")) {
            if (!line.isBlank()) {
                face.add(line.strip().replace("public ", ""));
            }
        }
        Set<String> due = new TreeSet<>();
        for (String line : face) {
            due.add(line.replaceAll("(int|long) \\w+([,)])", "$1$2"));
        }
        Set<String> shows = faceOfClass();
        boolean isFace = lines.startsWith(head) && due.equals(shows);
        if (!Edge.held(t -> t.that(isFace, "the class shows " + shows + ", due are " + due)).tell(shown(lines), lines)) {
            failed++;
        }
    }

    private static Set<String> faceOfClass() {
        Class<?> c = ThroughTheChain.class;
        Set<String> shown = new TreeSet<>();
        for (Method m : c.getMethods()) {
            if (m.getDeclaringClass() == c) {
                shown.add(told(m.getReturnType().getName() + " " + m.getName(), m.getParameterTypes()));
            }
        }
        for (java.lang.reflect.Constructor<?> made : c.getConstructors()) {
            shown.add(told(c.getName(), made.getParameterTypes()));
        }
        for (java.lang.reflect.Field f : c.getFields()) {
            boolean isConstant = Modifier.isStatic(f.getModifiers()) && Modifier.isFinal(f.getModifiers());
            shown.add((isConstant ? "static final " : "") + f.getType().getName() + " " + f.getName() + " = "
                + ThroughTheChain.NONE);
        }
        return shown;
    }

    private static String told(String name, Class<?>[] takes) {
        StringBuilder b = new StringBuilder(name).append('(');
        for (int i = 0; i < takes.length; i++) {
            b.append(i > 0 ? ", " : "").append(takes[i].getName());
        }
        return b.append(')').toString();
    }

    private static String shown(String words) {
        return words.length() <= SHOWN ? words : words.substring(0, SHOWN) + "..";
    }

    private void fail(String what) {
        failed++;
        System.out.println("  WRONG " + what);
    }

    void end() {
        if (!text.substring(at).isBlank()) {
            fail("the document goes on with \"" + shown(text.substring(at)) + "\"");
        }
        if (promises != Edges.PROMISES) {
            fail("there were " + promises + " promises");
        }
        System.out.println("DocumentTest: " + sentences + " sentences, " + failed + " wrong");
        if (failed != 0) {
            System.exit(1);
        }
    }
}
