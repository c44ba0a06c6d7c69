import java.io.ByteArrayOutputStream;
import java.io.IOException;
import java.io.InputStream;
import java.io.OutputStream;
import java.io.PrintStream;
import java.net.URI;
import java.nio.file.Files;
import java.nio.file.Path;
import java.util.ArrayList;
import java.util.HashMap;
import java.util.List;
import java.util.Map;
import java.util.concurrent.ExecutorService;
import java.util.concurrent.Executors;
import java.util.concurrent.Future;
import java.util.regex.Matcher;
import java.util.regex.Pattern;
import javax.tools.FileObject;
import javax.tools.ForwardingJavaFileManager;
import javax.tools.JavaCompiler;
import javax.tools.JavaFileObject;
import javax.tools.SimpleJavaFileObject;
import javax.tools.ToolProvider;

/**
 * No test: breaks the class in small ways, one at a time, and tells which of them no test of an edge sees.
 * A line that is told is either one that changes no answer, or a boundary case without a test.
 */
public final class Mutants {
    private static final String[] TESTS = {"EdgesTextTest", "EdgesPiecesTest", "EdgesFallsTest", "EdgesPlansTest", "EdgesRopeTest",
        "EdgesStoriesTest", "EdgesSheetsTest"};
    /** What is looked for, and what stands there then. */
    private static final String[][] BREAKS = {
        {"(?<![<>=])<(?![<=])", "<="}, {"<=", "<"}, {"(?<![->=<])>(?![>=])", ">="}, {"(?<!>)>=", ">"}, {"==", "!="}, {"!=", "=="},
        {"&&", "||"}, {"\\|\\|", "&&"}, {"(?<=[\\w\\])]) \\+ (?=[\\w(])", " - "}, {"(?<=[\\w\\])]) - (?=[\\w(])", " + "},
        {" \\* ", " + "}, {" / ", " * "}, {"Math\\.max", "Math.min"}, {"Math\\.min", "Math.max"}, {"\\btrue\\b", "false"},
        {"\\bfalse\\b", "true"}, {"\\bBAD\\b", "NONE"}, {"\\bNONE\\b", "BAD"}, {"\\bSTATE\\b", "BAD"}, {"\\bFULL\\b", "BAD"},
        {"~", ""}, {"(?<!>)>>(?!>)", "<<"}, {"<<", ">>"}, {" \\+= ", " = "}, {" \\|= ", " = "}, {" \\*= ", " = "}};

    private final String[] lines;
    private final int at;
    private final String broken;

    private Mutants(String[] lines, int at, String broken) {
        this.lines = lines;
        this.at = at;
        this.broken = broken;
    }

    public static void main(String[] args) throws Exception {
        String[] lines = Files.readString(Path.of(args.length > 0 ? args[0] : "src/main/java/TwoOnWall.java")).split("\n");
        List<Mutants> all = all(lines);
        PrintStream out = System.out;
        System.setOut(new PrintStream(OutputStream.nullOutputStream()));
        ExecutorService pool = Executors.newFixedThreadPool(Runtime.getRuntime().availableProcessors());
        List<Future<String>> answers = new ArrayList<>();
        for (Mutants m : all) answers.add(pool.submit(m::seenBy));
        int unseen = 0;
        for (int i = 0; i < all.size(); i++) {
            if (!answers.get(i).get().isEmpty()) continue;
            unseen++;
            Mutants m = all.get(i);
            out.println((m.at + 1) + ": " + lines[m.at].trim() + "\n    " + m.broken.trim());
        }
        out.println(all.size() + " ways to break the class, " + unseen + " of them unseen");
        System.exit(0);
    }

    private static List<Mutants> all(String[] lines) {
        List<Mutants> all = new ArrayList<>();
        for (int i = 0; i < lines.length; i++) {
            String line = lines[i];
            String code = line.trim();
            if (code.startsWith("/*") || code.startsWith("*") || code.startsWith("//") || code.contains("class ")) continue;
            for (String[] way : BREAKS) {
                Matcher m = Pattern.compile(way[0]).matcher(line);
                while (m.find()) all.add(new Mutants(lines, i, line.substring(0, m.start()) + way[1] + line.substring(m.end())));
            }
            Matcher number = Pattern.compile("(?<![\\w.'])\\d+(?![\\w.])").matcher(line);
            while (number.find()) {
                for (int by = -1; by <= 1; by += 2) {
                    int other = Integer.parseInt(number.group()) + by;
                    all.add(new Mutants(lines, i, line.substring(0, number.start()) + other + line.substring(number.end())));
                }
            }
            if (code.matches("[\\w.\\[\\] +-]+(\\(.*\\)| [+|*]?= .*);") && !code.matches("(return|private|public|final|int|long|boolean|static) .*")
                || code.matches("if \\(.*\\) (return .*|continue|break);")) all.add(new Mutants(lines, i, ""));
        }
        return all;
    }

    /** The test that sees it; "" if none does. What does not compile, or does not end, is seen. */
    private String seenBy() throws Exception {
        String[] text = lines.clone();
        text[at] = broken;
        Map<String, byte[]> classes = compiled(String.join("\n", text));
        if (classes == null) return "javac";
        String[] seen = {"no end"};
        Thread run = new Thread(() -> seen[0] = firstThatFails(new Loader(classes)));
        run.setDaemon(true);
        run.start();
        run.join(30_000);
        return seen[0];
    }

    private static String firstThatFails(Loader loader) {
        try {
            for (String test : TESTS) {
                Class<?> edges = loader.loadClass("Edges");
                var made = loader.loadClass(test).getDeclaredConstructor();
                made.setAccessible(true);
                var first = edges.getDeclaredMethod("firstThatFails");
                first.setAccessible(true);
                String fails = (String) first.invoke(made.newInstance());
                if (!fails.isEmpty()) return fails;
            }
            return "";
        } catch (ReflectiveOperationException e) {
            return "threw " + e;
        }
    }

    private static Map<String, byte[]> compiled(String text) {
        Map<String, ByteArrayOutputStream> made = new HashMap<>();
        JavaCompiler javac = ToolProvider.getSystemJavaCompiler();
        var files = new ForwardingJavaFileManager<>(javac.getStandardFileManager(null, null, null)) {
            @Override
            public JavaFileObject getJavaFileForOutput(Location where, String name, JavaFileObject.Kind kind, FileObject near) {
                return new SimpleJavaFileObject(URI.create("mem:/" + name + ".class"), kind) {
                    @Override
                    public OutputStream openOutputStream() {
                        return made.computeIfAbsent(name, n -> new ByteArrayOutputStream());
                    }
                };
            }
        };
        var source = new SimpleJavaFileObject(URI.create("mem:/TwoOnWall.java"), JavaFileObject.Kind.SOURCE) {
            @Override
            public CharSequence getCharContent(boolean ignore) {
                return text;
            }
        };
        if (!javac.getTask(new java.io.StringWriter(), files, d -> { }, List.of("-proc:none"),
            null, List.of(source)).call()) return null;
        Map<String, byte[]> classes = new HashMap<>();
        made.forEach((name, bytes) -> classes.put(name, bytes.toByteArray()));
        return classes;
    }

    /** The broken class and the tests anew, so that they are linked with it. */
    private static final class Loader extends ClassLoader {
        private final Map<String, byte[]> classes;

        Loader(Map<String, byte[]> classes) {
            super(ClassLoader.getPlatformClassLoader());
            this.classes = classes;
        }

        @Override
        protected Class<?> findClass(String name) throws ClassNotFoundException {
            byte[] bytes = classes.get(name);
            if (bytes == null && !name.startsWith("TwoOnWall")) bytes = ofTests(name);
            if (bytes == null) throw new ClassNotFoundException(name);
            return defineClass(name, bytes, 0, bytes.length);
        }

        private static byte[] ofTests(String name) throws ClassNotFoundException {
            try (InputStream in = ClassLoader.getSystemResourceAsStream(name.replace('.', '/') + ".class")) {
                return in == null ? null : in.readAllBytes();
            } catch (IOException e) {
                throw new ClassNotFoundException(name, e);
            }
        }
    }
}
