import java.lang.reflect.Method;
import java.lang.reflect.Modifier;
import java.net.URL;
import java.net.URLClassLoader;
import java.nio.file.Files;
import java.nio.file.Path;
import java.util.ArrayList;
import java.util.List;
import java.util.Set;
import java.util.TreeSet;
import java.util.regex.Matcher;
import java.util.regex.Pattern;
import java.util.stream.Stream;
import javax.tools.JavaCompiler;
import javax.tools.ToolProvider;

/** README.md: the Java that it shows is compiled and answers as it says, and its tables leave no call and no test out. */
public final class ReadmeTest {
    private static final Pattern BLOCK = Pattern.compile("(?ms)^```(\\w+)\n(.*?)^```$");
    private static final Pattern ANSWERED = Pattern.compile("(\\w+\\.\\w+\\(.*\\));\\s+// (-?\\d+)(:.*)?");
    private static final Pattern CALL = Pattern.compile("\\w+\\.\\w+\\(.*");

    private static int wrong = 0;

    private static void tell(String what) {
        wrong++;
        System.out.println("ReadmeTest: " + what);
    }

    private static List<String> blocks(String readme, String language) {
        List<String> blocks = new ArrayList<>();
        Matcher m = BLOCK.matcher(readme);
        while (m.find()) {
            if (m.group(1).equals(language)) {
                blocks.add(m.group(2));
            }
        }
        return blocks;
    }

    /** All blocks one after the other, as a reader would type them; each answered call adds to what is not as it says. */
    private static String program(List<String> blocks) {
        StringBuilder b = new StringBuilder("public final class Shown {\n"
            + "    private final StringBuilder other = new StringBuilder();\n"
            + "    private void due(String call, long got, long want) {\n"
            + "        if (got != want) other.append(call).append(\" answered \").append(got).append('\\n');\n    }\n"
            + "    public String otherwise() {\n");
        for (String block : blocks) {
            for (String line : block.split("\n")) {
                Matcher m = ANSWERED.matcher(line);
                if (m.matches()) {
                    b.append(String.format("due(\"%1$s\", %1$s, %2$sL);%n", m.group(1), m.group(2)));
                } else {
                    b.append(line).append('\n');
                }
            }
        }
        return b.append("        return other.toString();\n    }\n}\n").toString();
    }

    private static void java(String readme) throws Exception {
        List<String> blocks = blocks(readme, "java");
        int answers = 0;
        for (String line : String.join("", blocks).split("\n")) {
            answers += ANSWERED.matcher(line).matches() ? 1 : 0;
            if (CALL.matcher(line).matches() && !ANSWERED.matcher(line).matches()) {
                tell("a call without its answer: " + line);
            }
        }
        if (answers == 0) {
            tell("no call is shown with its answer");
        }
        Path out = Files.createTempDirectory("readme");
        Path source = out.resolve("Shown.java");
        Files.writeString(source, program(blocks));
        JavaCompiler compiler = ToolProvider.getSystemJavaCompiler();
        String path = System.getProperty("java.class.path");
        if (compiler == null
                || compiler.run(null, null, null, "-cp", path, "-d", out.toString(), source.toString()) != 0) {
            tell("the Java that is shown does not compile");
        } else {
            try (URLClassLoader loader = new URLClassLoader(new URL[] {out.toUri().toURL()})) {
                Class<?> shown = loader.loadClass("Shown");
                Object otherwise = shown.getMethod("otherwise").invoke(shown.getConstructor().newInstance());
                for (String line : otherwise.toString().split("\n")) {
                    if (!line.isEmpty()) {
                        tell(line);
                    }
                }
            }
        }
        remove(out);
        System.out.println("ReadmeTest: " + answers + " calls in " + blocks.size() + " blocks, " + wrong + " not as they say");
    }

    private static void remove(Path folder) throws Exception {
        try (Stream<Path> files = Files.list(folder)) {
            for (Path file : files.toList()) {
                Files.delete(file);
            }
        }
        Files.delete(folder);
    }

    /** What the first cells of the table behind a heading name. */
    private static Set<String> firstCells(String readme, String heading, String cell) {
        Set<String> names = new TreeSet<>();
        int from = Math.max(0, readme.indexOf(heading));
        Matcher row = Pattern.compile("(?m)^\\| (" + cell + ") \\|").matcher(readme.substring(from));
        while (row.find()) {
            names.addAll(List.of(row.group(1).replace("`", "").split(", ")));
        }
        return names;
    }

    private static void tables(String readme) throws Exception {
        Set<String> calls = new TreeSet<>();
        for (Method m : ThroughTheChain.class.getDeclaredMethods()) {
            if (Modifier.isPublic(m.getModifiers())) {
                calls.add(m.getName());
            }
        }
        Set<String> told = firstCells(readme, "### All calls", "`[^|]*`");
        if (!told.equals(calls)) {
            tell("the table of calls has " + told + ", the face " + calls);
        }
        Set<String> tests = new TreeSet<>();
        try (Stream<Path> files = Files.list(Path.of("src/test/java"))) {
            files.map(f -> f.getFileName().toString().replace(".java", "")).filter(f -> f.endsWith("Test")).forEach(tests::add);
        }
        Set<String> named = firstCells(readme, "## How to run", "\\w+Test");
        if (!named.equals(tests)) {
            tell("the table of tests has " + named + ", the project " + tests);
        }
    }

    /** The numbers of promises in each row of calls are those that the document has for these calls. */
    private static void promises(String readme, String document) {
        Matcher row = Pattern.compile("(?m)^\\| (`[^|]*`) \\|[^|]*\\| ([^|]*) \\|$").matcher(readme);
        while (row.find()) {
            Set<Integer> due = new TreeSet<>();
            for (String call : row.group(1).replace("`", "").split(", ")) {
                Matcher promise = Pattern.compile("## Promise (\\d+): " + call + "\n").matcher(document);
                if (promise.find()) {
                    due.add(Integer.parseInt(promise.group(1)));
                }
            }
            Set<Integer> told = new TreeSet<>();
            for (String range : row.group(2).split(", ")) {
                String[] ends = range.split(" to ");
                for (int n = Integer.parseInt(ends[0]); n <= Integer.parseInt(ends[ends.length - 1]); n++) {
                    told.add(n);
                }
            }
            if (!told.equals(due)) {
                tell("the promises of " + row.group(1) + " are " + due + ", not " + told);
            }
        }
    }

    /** Every file and class that the page tells a reader to run or to look at is there. */
    private static void paths(String readme) {
        Matcher path = Pattern.compile("(?:\\.\\./shared|\\.ci|src)/[\\w./]*\\w").matcher(readme);
        while (path.find()) {
            if (!Files.exists(Path.of(path.group()))) {
                tell("there is no " + path.group());
            }
        }
        Matcher file = Pattern.compile("`(\\w+(?:Edges|Walk))`|\\bjava -cp out (\\w+)").matcher(readme);
        while (file.find()) {
            String name = file.group(1) != null ? file.group(1) : file.group(2);
            if (!Files.exists(Path.of("src/test/java/" + name + ".java"))) {
                tell("there is no " + name);
            }
        }
        if (!String.join("", blocks(readme, "sh")).contains(".ci/run\n") || !Files.isExecutable(Path.of(".ci/run"))) {
            tell("the page doesn't show .ci/run, or it can't be run");
        }
    }

    public static void main(String[] args) throws Exception {
        String readme = Files.readString(Path.of("README.md"));
        java(readme);
        tables(readme);
        promises(readme, Files.readString(Path.of("../shared/DOC.md")));
        paths(readme);
        System.out.println("ReadmeTest: " + (wrong == 0 ? "the page is as the class is" : wrong + " wrong"));
        if (wrong != 0) {
            System.exit(1);
        }
    }
}
