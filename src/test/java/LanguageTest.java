import java.lang.reflect.Field;
import java.lang.reflect.Method;
import java.lang.reflect.Modifier;
import java.nio.file.Files;
import java.nio.file.Path;
import java.util.ArrayList;
import java.util.List;
import java.util.Set;
import java.util.TreeSet;
import java.util.regex.Matcher;
import java.util.regex.Pattern;

/** The rules of LANGUAGE.md that a program can look after: the face, words that may not stand, sizes. */
public final class LanguageTest {
    private static final String[] FACE = {"int row(int,int,int)", "int set(int,int,long)", "int copy(int,int,int,int,int)",
        "long element(int,int)", "int holds(int)", "int show(int,int)", "int says(int,int)", "int one(int,int,int,int,int)",
        "int tell(int,int,int)", "int ask(int,int)", "int feed(int)", "int wipe()", "int yard()", "int oneOf(int,int)",
        "int chainOf(int,int)", "int strength(int,int)", "int weakest(int)", "int strongest(int)", "int hardest(int)",
        "int odds(int,int)", "int at(int)", "int take(int)", "int call()", "int won()", "int over()", "int play(int,int)",
        "int stand(int,int)", "int worth(int)", "int move(int,int)", "int pair()", "int tiredest()",
        "int spreadFor(int,int)", "int yardsFor(int,int)", "int leads(int)", "int game(int)", "int first(int)",
        "int together(int)", "int swap(int,int)", "int could(int,int)", "int judge(int,int)", "int behind(int,int,int)",
        "int booked(int,int)", "int order(int,int)", "int best(int)", "int run(int,int,int)", "int runs(int)",
        "int rest(int)", "int again()", "int seed(int)", "int image()", "int back()", "int status(int)"};
    private static final String[] NOT_THERE = {"\\bthrow\\b", "\\btry\\b", "\\bcatch\\b", "\\bsynchronized\\b", "\\bassert\\b",
        "\\bimport\\b", "\\bpackage\\b", "->", "::", "Exact\\b", "\\bSystem\\.(?!arraycopy)",
        "\\bprotected\\b", "\\bhashCode\\b", "\\btoString\\b", "\\bgoto\\b", "\\bThread\\b", "\\bInteger\\.[A-Z]"};

    private static int wrong = 0;

    private static void tell(String what) {
        wrong++;
        System.out.println("LanguageTest: " + what);
    }

    private static String told(Method m) {
        StringBuilder b = new StringBuilder(m.getReturnType().getName()).append(' ').append(m.getName()).append('(');
        for (int i = 0; i < m.getParameterCount(); i++) {
            b.append(i > 0 ? "," : "").append(m.getParameterTypes()[i].getName());
        }
        return b.append(')').toString();
    }

    private static void face() {
        Class<?> c = ThroughTheChain.class;
        Set<String> due = new TreeSet<>(List.of(FACE));
        Set<String> shown = new TreeSet<>();
        Set<String> names = new TreeSet<>();
        List<String> hidden = new ArrayList<>();
        for (Method m : c.getDeclaredMethods()) {
            if (Modifier.isPublic(m.getModifiers())) {
                shown.add(told(m));
                names.add(m.getName());
            } else if (Modifier.isPrivate(m.getModifiers())) {
                hidden.add(m.getName());
            } else {
                tell("a method that is neither public nor private: " + m);
            }
        }
        if (!shown.equals(due)) tell("the face is not the document's: " + shown);
        for (String h : hidden) if (names.contains(h)) tell("a private method has a public one's name: " + h);
        if (c.getConstructors().length != 1 || c.getDeclaredConstructors().length != 1) tell("not just one constructor");
        if (!Modifier.isFinal(c.getModifiers()) || !Modifier.isPublic(c.getModifiers())) tell("the class is not public and final");
        for (Class<?> inside : c.getDeclaredClasses()) {
            if (!Modifier.isStatic(inside.getModifiers()) || Modifier.isPublic(inside.getModifiers())) tell("a class inside: " + inside);
            sizes(inside);
        }
        if (c.getDeclaredClasses().length > 11) tell("more than twelve classes");
        sizes(c);
        for (Field f : c.getDeclaredFields()) {
            boolean isFace = f.getName().equals("NONE");
            if (isFace != Modifier.isPublic(f.getModifiers()) || !isFace && !Modifier.isPrivate(f.getModifiers())) tell("field " + f);
        }
    }

    private static void sizes(Class<?> c) {
        int fields = 0;
        for (Field f : c.getDeclaredFields()) {
            if (!Modifier.isStatic(f.getModifiers())) fields++;
            else if (!Modifier.isFinal(f.getModifiers())) tell("a static field that isn't final: " + f);
        }
        if (fields > 20) tell(c + " has " + fields + " fields");
        for (Method m : c.getDeclaredMethods()) if (m.getParameterCount() > 7) tell("too many parameters: " + m);
    }

    private static void words(Path source) throws Exception {
        String text = Files.readString(source);
        String bare = text.replaceAll("(?s)/\\*.*?\\*/", "").replaceAll("//[^\n]*", "");
        for (String w : NOT_THERE) {
            Matcher m = Pattern.compile(w).matcher(bare);
            if (m.find()) tell("the source has '" + m.group() + "'");
        }
        Matcher body = Pattern.compile("(?m)^( {4}| {8})[^\\s}].*\\{$((?:\n(?!\\1\\}).*)*)").matcher(bare);
        while (body.find()) {
            int lines = body.group(2).split("\n").length;
            if (lines > 60 && !body.group().contains(" class ")) tell(lines + " lines: " + body.group().split("\n")[0]);
        }
    }

    public static void main(String[] args) throws Exception {
        face();
        words(Path.of("src/main/java/ThroughTheChain.java"));
        System.out.println("LanguageTest: " + (wrong == 0 ? "the rules are kept" : wrong + " rules are broken"));
        if (wrong != 0) System.exit(1);
    }
}
