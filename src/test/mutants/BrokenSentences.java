import java.io.ByteArrayOutputStream;
import java.io.IOException;
import java.io.OutputStream;
import java.io.StringWriter;
import java.lang.reflect.Field;
import java.lang.reflect.Method;
import java.net.URI;
import java.nio.file.DirectoryStream;
import java.nio.file.Files;
import java.nio.file.Path;
import java.util.ArrayList;
import java.util.Arrays;
import java.util.HashMap;
import java.util.List;
import java.util.Map;
import java.util.TreeMap;
import java.util.TreeSet;
import java.util.concurrent.ExecutorService;
import java.util.concurrent.Executors;
import java.util.concurrent.Future;
import javax.tools.FileObject;
import javax.tools.ForwardingJavaFileManager;
import javax.tools.JavaCompiler;
import javax.tools.JavaFileManager;
import javax.tools.JavaFileObject;
import javax.tools.SimpleJavaFileObject;
import javax.tools.ToolProvider;

/**
 * Breaks one sentence of the document after the other in the program, and tells whether a boundary case that names
 * this sentence fails. Run from the project's directory: java src/test/mutants/BrokenSentences.java
 */
public final class BrokenSentences {
    private static final Path PROGRAM = Path.of("src/main/java/NeighbourHash.java");
    private static final Path SENTENCES = Path.of("src/test/mutants/sentences.txt");
    private static final Path SUPPORT = Path.of("src/test/support");
    private static final long MOST_MILLIS = 20000;

    private static final List<Source> support = new ArrayList<>();
    private static final Map<String, byte[]> tests = new HashMap<>();

    private record Mutant(String promise, String sentence, String line, String program) {
    }

    /** The groups of cases that fail, as "promise sentence"; one of them is "too long" if the cases do not end. */
    private record Result(Mutant mutant, List<String> failing) {
    }

    private static final class Source extends SimpleJavaFileObject {
        final String text;

        Source(String name, String text) {
            super(URI.create("mem:///" + name + ".java"), Kind.SOURCE);
            this.text = text;
        }

        @Override
        public CharSequence getCharContent(boolean ignoreEncodingErrors) {
            return text;
        }
    }

    private static final class Compiled extends SimpleJavaFileObject {
        final ByteArrayOutputStream bytes = new ByteArrayOutputStream();

        Compiled(String name) {
            super(URI.create("mem:///" + name + ".class"), Kind.CLASS);
        }

        @Override
        public OutputStream openOutputStream() {
            return bytes;
        }
    }

    private static final class Loader extends ClassLoader {
        final Map<String, byte[]> program;

        Loader(Map<String, byte[]> program) {
            super(ClassLoader.getPlatformClassLoader());
            this.program = program;
        }

        @Override
        protected Class<?> findClass(String name) throws ClassNotFoundException {
            byte[] bytes = program.containsKey(name) ? program.get(name) : tests.get(name);
            if (bytes == null) {
                throw new ClassNotFoundException(name);
            }
            return defineClass(name, bytes, 0, bytes.length);
        }
    }

    /** Null if it does not compile. */
    private static Map<String, byte[]> compiled(List<Source> sources) {
        JavaCompiler compiler = ToolProvider.getSystemJavaCompiler();
        Map<String, Compiled> out = new HashMap<>();
        JavaFileManager files = new ForwardingJavaFileManager<JavaFileManager>(compiler.getStandardFileManager(null, null, null)) {
            @Override
            public JavaFileObject getJavaFileForOutput(Location location, String name, JavaFileObject.Kind kind, FileObject sibling) {
                out.put(name, new Compiled(name));
                return out.get(name);
            }
        };
        if (!compiler.getTask(new StringWriter(), files, d -> { }, List.of("-proc:none"), null, sources).call()) {
            return null;
        }
        Map<String, byte[]> classes = new HashMap<>();
        out.forEach((name, file) -> classes.put(name, file.bytes.toByteArray()));
        return classes;
    }

    private static Object field(Object object, String name) throws ReflectiveOperationException {
        Field field = object.getClass().getDeclaredField(name);
        field.setAccessible(true);
        return field.get(object);
    }

    private static void collect(Map<String, byte[]> program, boolean all, List<String> groups) {
        try {
            Class<?> boundary = new Loader(program).loadClass("Boundary");
            Method list = boundary.getDeclaredMethod("all");
            Method faults = boundary.getDeclaredMethod("faultsFound");
            list.setAccessible(true);
            faults.setAccessible(true);
            for (Object c : (List<?>) list.invoke(null)) {
                if (all || !((List<?>) faults.invoke(c)).isEmpty()) {
                    groups.add(field(c, "promise") + " " + field(c, "sentence"));
                }
            }
        } catch (ReflectiveOperationException e) {
            throw new IllegalStateException(e);
        }
    }

    private static Result tried(Mutant mutant) throws InterruptedException {
        List<Source> sources = new ArrayList<>(List.of(new Source("NeighbourHash", mutant.program)));
        if (mutant.line.contains("static final")) {
            // The tests hold the program's public constants themselves.
            sources.addAll(support);
        }
        Map<String, byte[]> program = compiled(sources);
        if (program == null) {
            return new Result(mutant, null);
        }
        List<String> failing = new ArrayList<>();
        Thread thread = new Thread(() -> collect(program, false, failing));
        thread.setDaemon(true);
        thread.start();
        thread.join(MOST_MILLIS);
        List<String> found = new ArrayList<>(failing);
        if (thread.isAlive()) {
            found.add("too long");
        }
        return new Result(mutant, found);
    }

    private static Mutant mutant(String line, String program) {
        String[] parts = (line + " ").split(" @@ ");
        if (parts.length != 5) {
            System.out.println("not five parts: " + line);
            return null;
        }
        String old = parts[3].replace("\\n", "\n");
        int from = parts[2].equals("-") ? 0 : program.indexOf(parts[2]);
        int at = from < 0 ? -1 : program.indexOf(old, from);
        int end = parts[2].equals("-") ? program.length() : program.indexOf("\n    }\n", from);
        if (at < 0 || at > end) {
            System.out.println("the program has no such text: " + line);
            return null;
        }
        return new Mutant(parts[0], parts[1], line, program.substring(0, at) + parts[4].trim().replace("\\n", "\n") + program.substring(at + old.length()));
    }

    private static boolean isMeant(Mutant mutant, String group) {
        String sentence = group.substring(group.indexOf(' ') + 1);
        String promise = group.substring(0, group.indexOf(' '));
        return sentence.startsWith(mutant.sentence) && (mutant.promise.equals("*") || mutant.promise.equals(promise));
    }

    private static void readTests() throws IOException {
        try (DirectoryStream<Path> files = Files.newDirectoryStream(SUPPORT, "*.java")) {
            for (Path file : files) {
                support.add(new Source(file.getFileName().toString().replace(".java", ""), Files.readString(file)));
            }
        }
        List<Source> sources = new ArrayList<>(support);
        sources.add(new Source("NeighbourHash", Files.readString(PROGRAM)));
        tests.putAll(compiled(sources));
        tests.keySet().removeIf(name -> name.startsWith("NeighbourHash"));
    }

    private static List<Result> results(List<Mutant> mutants) throws Exception {
        ExecutorService threads = Executors.newFixedThreadPool(Runtime.getRuntime().availableProcessors());
        List<Future<Result>> futures = new ArrayList<>();
        for (Mutant mutant : mutants) {
            futures.add(threads.submit(() -> tried(mutant)));
        }
        List<Result> results = new ArrayList<>();
        for (Future<Result> future : futures) {
            results.add(future.get());
        }
        threads.shutdown();
        return results;
    }

    /** The groups that failed for a broken sentence which is theirs. */
    private static TreeSet<String> judged(List<Result> results) {
        TreeSet<String> fallen = new TreeSet<>();
        for (Result result : results) {
            if (result.failing == null) {
                System.out.println("does not compile: " + result.mutant.line);
                continue;
            }
            boolean noticed = false;
            for (String group : result.failing) {
                if (isMeant(result.mutant, group)) {
                    noticed = true;
                    fallen.add(group);
                }
            }
            if (!noticed) {
                System.out.println("not noticed by a case of its sentence (but by " + new TreeSet<>(result.failing).size() + " others): " + result.mutant.line);
            }
        }
        return fallen;
    }

    public static void main(String[] args) throws Exception {
        String program = Files.readString(PROGRAM);
        readTests();
        List<Mutant> mutants = new ArrayList<>();
        for (String line : Files.readAllLines(SENTENCES)) {
            if (!line.isBlank() && !line.startsWith("#")) {
                Mutant mutant = mutant(line, program);
                if (mutant != null) {
                    mutants.add(mutant);
                }
            }
        }
        TreeSet<String> fallen = judged(results(mutants));
        List<String> groups = new ArrayList<>();
        collect(compiled(List.of(new Source("NeighbourHash", program))), true, groups);
        TreeMap<String, Integer> standing = new TreeMap<>();
        for (String group : groups) {
            if (!fallen.contains(group)) {
                standing.merge(group, 1, Integer::sum);
            }
        }
        standing.forEach((group, count) -> System.out.println("never failed: promise " + group + " (" + count + ")"));
        System.out.println(mutants.size() + " broken sentences, " + fallen.size() + " groups of cases failed, " + standing.size() + " never did");
        System.exit(0);
    }
}
