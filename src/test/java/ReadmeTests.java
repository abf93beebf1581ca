import java.io.IOException;
import java.lang.reflect.Method;
import java.lang.reflect.Modifier;
import java.net.URI;
import java.net.URLClassLoader;
import java.nio.file.Files;
import java.nio.file.Path;
import java.util.List;
import java.util.TreeSet;
import java.util.regex.Matcher;
import java.util.regex.Pattern;
import javax.tools.JavaCompiler;
import javax.tools.SimpleJavaFileObject;
import javax.tools.ToolProvider;

/** README.md: each call in it answers what is said behind it, and it names every public method of the class. */
public final class ReadmeTests {
    private static final Path README = Path.of("README.md");
    private static final Pattern BLOCK = Pattern.compile("```java\n(.*?)```", Pattern.DOTALL);
    /** A call with its answer: a text in quotation marks, an exception behind "throws", or what stands up to a comma. */
    private static final Pattern ANSWERED = Pattern.compile("(?<call>\\S.*\\)); +// (?<answer>\".*\"|throws \\w+|[^ ,]+)(,.*)?");
    private static final Pattern DECLARED = Pattern.compile("NeighbourHash table = new NeighbourHash\\(\\);");

    private static int answers = 0;
    private static int wrong = 0;

    private static void fault(String text) {
        wrong++;
        System.out.println(text);
    }

    /** Called by the program that is made of the page. */
    public interface Call {
        Object answer();
    }

    public static void due(String call, String want, Call made) {
        String got;
        try {
            Object answer = made.answer();
            got = answer instanceof String ? "\"" + answer + "\"" : String.valueOf(answer);
        } catch (RuntimeException e) {
            got = "throws " + e.getClass().getSimpleName();
        }
        answers++;
        if (!got.equals(want)) {
            fault("README.md: " + call + " answered " + got + ", it says " + want);
        }
    }

    private static String quoted(String text) {
        return "\"" + text.replace("\\", "\\\\").replace("\"", "\\\"") + "\"";
    }

    private static String statement(String line) {
        Matcher answered = ANSWERED.matcher(line);
        if (DECLARED.matcher(line).matches() || line.isBlank()) {
            return line;
        }
        if (!answered.matches()) {
            fault("README.md: no call with its answer: " + line);
            return "";
        }
        String call = answered.group("call");
        return "ReadmeTests.due(" + quoted(call) + ", " + quoted(answered.group("answer")) + ", () -> " + call + ");";
    }

    /** Blocks that begin with "static" are methods, the others are one run of calls. */
    private static String program(String page) {
        StringBuilder methods = new StringBuilder();
        StringBuilder calls = new StringBuilder();
        Matcher block = BLOCK.matcher(page);
        while (block.find()) {
            if (block.group(1).startsWith("static ")) {
                methods.append(block.group(1));
                continue;
            }
            for (String line : block.group(1).split("\n")) {
                calls.append(statement(line)).append('\n');
            }
        }
        return "public final class Page {\npublic static void main(String[] args) {\n" + calls + "}\n" + methods + "}\n";
    }

    private static final class Source extends SimpleJavaFileObject {
        final String text;

        Source(String name, String text) {
            super(URI.create("mem:///" + name + ".java"), Kind.SOURCE);
            this.text = text;
        }

        @Override
        public CharSequence getCharContent(boolean ignoreEncodingErrors) {
            return text;
        }
    }

    private static void runPage(String program) throws IOException, ReflectiveOperationException {
        Path out = Files.createTempDirectory("readme");
        JavaCompiler compiler = ToolProvider.getSystemJavaCompiler();
        List<String> options = List.of("-d", out.toString(), "-cp", System.getProperty("java.class.path"), "-proc:none");
        if (!compiler.getTask(null, null, null, options, null, List.of(new Source("Page", program))).call()) {
            fault("README.md: its calls do not compile:\n" + program);
        } else {
            try (URLClassLoader loader = new URLClassLoader(new java.net.URL[] {out.toUri().toURL()})) {
                loader.loadClass("Page").getMethod("main", String[].class).invoke(null, (Object) new String[0]);
            }
        }
        Files.deleteIfExists(out.resolve("Page.class"));
        Files.deleteIfExists(out);
    }

    private static void namesEveryMethod(String page) {
        TreeSet<String> names = new TreeSet<>();
        for (Method m : NeighbourHash.class.getDeclaredMethods()) {
            if (Modifier.isPublic(m.getModifiers())) {
                names.add(m.getName());
            }
        }
        for (String name : names) {
            if (!page.contains("`" + name + "(")) {
                fault("README.md does not name " + name);
            }
        }
    }

    public static void main(String[] args) throws IOException, ReflectiveOperationException {
        String page = Files.readString(README);
        runPage(program(page));
        namesEveryMethod(page);
        if (answers == 0) {
            fault("README.md has no calls with answers");
        }
        System.out.println(wrong == 0 ? answers + " answers of README.md, all as due" : wrong + " faults in README.md");
        if (wrong != 0) {
            System.exit(1);
        }
    }
}
