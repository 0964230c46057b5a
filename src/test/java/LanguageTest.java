import com.sun.source.tree.CompilationUnitTree;
import com.sun.source.tree.IdentifierTree;
import com.sun.source.tree.LambdaExpressionTree;
import com.sun.source.tree.MemberSelectTree;
import com.sun.source.tree.MethodInvocationTree;
import com.sun.source.tree.MethodTree;
import com.sun.source.tree.NewArrayTree;
import com.sun.source.tree.NewClassTree;
import com.sun.source.tree.Tree;
import com.sun.source.util.JavacTask;
import com.sun.source.util.TreeScanner;
import java.lang.reflect.Field;
import java.lang.reflect.Method;
import java.lang.reflect.Modifier;
import java.nio.file.Files;
import java.nio.file.Path;
import java.util.ArrayList;
import java.util.List;
import java.util.Map;
import java.util.Set;
import java.util.TreeMap;
import java.util.TreeSet;
import java.util.regex.Matcher;
import java.util.regex.Pattern;
import javax.tools.JavaCompiler;
import javax.tools.StandardJavaFileManager;
import javax.tools.ToolProvider;

/** The rules of LANGUAGE.md that a program can look after: the face, words that may not stand, sizes. */
public final class LanguageTest {
    private static final String[] FACE = {"int row(int,int,int)", "int set(int,int,long)", "int copy(int,int,int,int,int)",
        "long element(int,int)", "int holds(int)", "int show(int,int)", "int says(int,int)", "int one(int,int,int,int,int)",
        "int tell(int,int,int)", "int ask(int,int)", "int feed(int)", "int wipe()", "int yard()", "int oneOf(int,int)",
        "int chainOf(int,int)", "int strength(int,int)", "int weakest(int)", "int strongest(int)", "int hardest(int)",
        "int odds(int,int)", "int at(int)", "int take(int)", "int call()", "int won()", "int over()", "int play(int,int)",
        "int stand(int,int)", "int worth(int)", "int move(int,int)", "int pair()", "int tiredest()",
        "int spreadFor(int,int)", "int yardsFor(int,int)", "int leads(int)", "int game(int)", "int first(int)",
        "int together(int)", "int swap(int,int)", "int could(int,int)", "int judge(int,int)", "int behind(int,int,int)",
        "int booked(int,int)", "int order(int,int)", "int best(int)", "int run(int,int,int)", "int runs(int)",
        "int rest(int)", "int again()", "int seed(int)", "int image()", "int back()", "int status(int)"};
    private static final String[] NOT_THERE = {"\\bthrow\\b", "\\btry\\b", "\\bcatch\\b", "\\bsynchronized\\b", "\\bassert\\b",
        "\\bimport\\b", "\\bpackage\\b", "->", "::", "Exact\\b", "\\bSystem\\.(?!arraycopy)",
        "\\bprotected\\b", "\\bhashCode\\b", "\\btoString\\b", "\\bgoto\\b", "\\bThread\\b", "\\bInteger\\.[A-Z]"};

    private static final int MOST_DEEP = 8;

    private static int wrong = 0;

    /** Which methods of the file each method calls, by their names; and what is made where. */
    private static final class Calls extends TreeScanner<Void, String> {
        final Map<String, Set<String>> called = new TreeMap<>();

        @Override
        public Void visitMethod(MethodTree method, String within) {
            called.computeIfAbsent(method.getName().toString(), name -> new TreeSet<>());
            return super.visitMethod(method, method.getName().toString());
        }

        @Override
        public Void visitMethodInvocation(MethodInvocationTree call, String within) {
            Tree name = call.getMethodSelect();
            if (within != null && name instanceof IdentifierTree i) called.get(within).add(i.getName().toString());
            if (within != null && name instanceof MemberSelectTree m) called.get(within).add(m.getIdentifier().toString());
            return super.visitMethodInvocation(call, within);
        }

        @Override
        public Void visitNewClass(NewClassTree made, String within) {
            madeIn(within, made);
            return super.visitNewClass(made, within);
        }

        @Override
        public Void visitNewArray(NewArrayTree made, String within) {
            madeIn(within, made);
            return super.visitNewArray(made, within);
        }

        @Override
        public Void visitLambdaExpression(LambdaExpressionTree lambda, String within) {
            tell("a lambda in " + within);
            return super.visitLambdaExpression(lambda, within);
        }

        private static void madeIn(String within, Tree made) {
            if (within != null && !within.equals("<init>")) tell(within + " makes " + made);
        }

        /** How many stand open at once, of methods that are no recursion. */
        int depth(String name, Set<String> open) {
            int most = 0;
            open.add(name);
            for (String next : called.get(name)) {
                if (called.containsKey(next) && !open.contains(next)) most = Math.max(most, depth(next, open));
            }
            open.remove(name);
            return most + 1;
        }
    }

    private static void tell(String what) {
        wrong++;
        System.out.println("LanguageTest: " + what);
    }

    private static String told(Method m) {
        StringBuilder b = new StringBuilder(m.getReturnType().getName()).append(' ').append(m.getName()).append('(');
        for (int i = 0; i < m.getParameterCount(); i++) {
            b.append(i > 0 ? "," : "").append(m.getParameterTypes()[i].getName());
        }
        return b.append(')').toString();
    }

    private static void face() {
        Class<?> c = ThroughTheChain.class;
        Set<String> due = new TreeSet<>(List.of(FACE));
        Set<String> shown = new TreeSet<>();
        Set<String> names = new TreeSet<>();
        List<String> hidden = new ArrayList<>();
        for (Method m : c.getDeclaredMethods()) {
            if (Modifier.isPublic(m.getModifiers())) {
                shown.add(told(m));
                names.add(m.getName());
            } else if (Modifier.isPrivate(m.getModifiers())) {
                hidden.add(m.getName());
            } else {
                tell("a method that is neither public nor private: " + m);
            }
        }
        if (!shown.equals(due)) tell("the face is not the document's: " + shown);
        for (String h : hidden) if (names.contains(h)) tell("a private method has a public one's name: " + h);
        if (c.getConstructors().length != 1 || c.getDeclaredConstructors().length != 1) tell("not just one constructor");
        if (!Modifier.isFinal(c.getModifiers()) || !Modifier.isPublic(c.getModifiers())) tell("the class is not public and final");
        for (Class<?> inside : c.getDeclaredClasses()) {
            if (!Modifier.isStatic(inside.getModifiers()) || Modifier.isPublic(inside.getModifiers())) tell("a class inside: " + inside);
            sizes(inside);
        }
        if (c.getDeclaredClasses().length > 11) tell("more than twelve classes");
        sizes(c);
        for (Field f : c.getDeclaredFields()) {
            boolean isFace = f.getName().equals("NONE");
            if (isFace != Modifier.isPublic(f.getModifiers()) || !isFace && !Modifier.isPrivate(f.getModifiers())) tell("field " + f);
        }
    }

    private static void sizes(Class<?> c) {
        int fields = 0;
        for (Field f : c.getDeclaredFields()) {
            if (!Modifier.isStatic(f.getModifiers())) fields++;
            else if (!Modifier.isFinal(f.getModifiers())) tell("a static field that isn't final: " + f);
        }
        if (fields > 20) tell(c + " has " + fields + " fields");
        for (Method m : c.getDeclaredMethods()) if (m.getParameterCount() > 7) tell("too many parameters: " + m);
    }

    private static void words(Path source) throws Exception {
        String text = Files.readString(source);
        String bare = text.replaceAll("(?s)/\\*.*?\\*/", "").replaceAll("//[^\n]*", "");
        for (String w : NOT_THERE) {
            Matcher m = Pattern.compile(w).matcher(bare);
            if (m.find()) tell("the source has '" + m.group() + "'");
        }
        Matcher body = Pattern.compile("(?m)^( {4}| {8})[^\\s}].*\\{$((?:\n(?!\\1\\}).*)*)").matcher(bare);
        while (body.find()) {
            int lines = body.group(2).split("\n").length;
            if (lines > 60 && !body.group().contains(" class ")) tell(lines + " lines: " + body.group().split("\n")[0]);
        }
    }

    private static void calls(Path source) throws Exception {
        JavaCompiler compiler = ToolProvider.getSystemJavaCompiler();
        Calls calls = new Calls();
        try (StandardJavaFileManager files = compiler.getStandardFileManager(null, null, null)) {
            JavacTask task = (JavacTask) compiler.getTask(null, files, null, null, null, files.getJavaFileObjects(source));
            for (CompilationUnitTree unit : task.parse()) calls.scan(unit, null);
        }
        for (String name : calls.called.keySet()) {
            int depth = calls.depth(name, new TreeSet<>());
            if (depth > MOST_DEEP) tell(name + " goes " + depth + " calls deep");
        }
    }

    public static void main(String[] args) throws Exception {
        face();
        calls(Path.of("src/main/java/ThroughTheChain.java"));
        words(Path.of("src/main/java/ThroughTheChain.java"));
        System.out.println("LanguageTest: " + (wrong == 0 ? "the rules are kept" : wrong + " rules are broken"));
        if (wrong != 0) System.exit(1);
    }
}
