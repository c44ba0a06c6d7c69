import java.net.URI;
import java.nio.file.Files;
import java.nio.file.Path;
import java.util.ArrayList;
import java.util.List;
import java.util.regex.Matcher;
import java.util.regex.Pattern;
import java.util.stream.Stream;
import javax.tools.JavaCompiler;
import javax.tools.JavaFileObject;
import javax.tools.SimpleJavaFileObject;
import javax.tools.ToolProvider;

/**
 * What README.md says holds: its Java code compiles, each call in it answers what stands behind it,
 * it names every call of the face and every test, and each file that it names is there.
 */
public final class ReadmeTest {
    private static final Check c = new Check("ReadmeTest");
    /** A call, and the answer that stands behind it. */
    private static final Pattern CALL = Pattern.compile("(x\\.\\w+\\(.*\\)); *// (-?\\d+)\\b.*");

    private final Path root;
    private final String readme;

    private ReadmeTest(Path root) throws Exception {
        this.root = root;
        readme = Files.readString(root.resolve("README.md"));
    }

    public static void main(String[] args) throws Exception {
        Path source = Path.of(System.getProperty("source", "src/main/java/TwoOnWall.java")).toAbsolutePath();
        ReadmeTest t = new ReadmeTest(source.getParent().getParent().getParent().getParent());
        t.code();
        t.calls();
        t.files();
        c.end();
    }

    /** Called by what is made of the code. */
    public static void due(String call, long got, long due) {
        c.due(call, got, due);
    }

    private List<String> blocks(String language) {
        List<String> blocks = new ArrayList<>();
        Matcher m = Pattern.compile("(?s)\n```" + language + "\n(.*?)\n```").matcher(readme);
        while (m.find()) blocks.add(m.group(1));
        return blocks;
    }

    /** The blocks one behind another: those that begin with static are methods, the others lines of one method. */
    private void code() throws Exception {
        StringBuilder methods = new StringBuilder();
        StringBuilder body = new StringBuilder();
        int calls = 0;
        for (String block : blocks("java")) {
            if (block.startsWith("static ")) {
                methods.append(block).append('\n');
                continue;
            }
            for (String line : block.split("\n")) {
                Matcher call = CALL.matcher(line);
                boolean is = call.matches();
                if (is) calls++;
                String quoted = is ? call.group(1).replace("\"", "'") : "";
                body.append(is ? "ReadmeTest.due(\"" + quoted + "\", " + call.group(1) + ", " + call.group(2) + "L);" : line).append('\n');
            }
        }
        c.due("README.md shows calls with answers", calls >= 10 ? 1 : 0, 1);
        run("public final class ReadmeCode {\n" + methods + "public static void run() {\n" + body + "}\n}\n");
    }

    private void run(String code) throws Exception {
        JavaCompiler javac = ToolProvider.getSystemJavaCompiler();
        Path out = Files.createTempDirectory("readme");
        JavaFileObject source = new SimpleJavaFileObject(URI.create("string:///ReadmeCode.java"), JavaFileObject.Kind.SOURCE) {
            @Override
            public CharSequence getCharContent(boolean ignore) {
                return code;
            }
        };
        List<String> options = List.of("-proc:none", "-d", out.toString(), "-cp", System.getProperty("java.class.path"));
        boolean compiles = javac.getTask(null, null, null, options, null, List.of(source)).call();
        c.due("the code of README.md compiles", compiles ? 1 : 0, 1);
        if (compiles) {
            ClassLoader tests = ReadmeTest.class.getClassLoader();
            try (java.net.URLClassLoader loader = new java.net.URLClassLoader(new java.net.URL[] {out.toUri().toURL()}, tests)) {
                loader.loadClass("ReadmeCode").getMethod("run").invoke(null);
            }
        }
        Files.deleteIfExists(out.resolve("ReadmeCode.class"));
        Files.delete(out);
    }

    private boolean names(String word) {
        return Pattern.compile("(?<![\\w.])" + Pattern.quote(word) + "(?!\\w)").matcher(readme).find();
    }

    private void calls() {
        for (java.lang.reflect.Method m : TwoOnWall.class.getDeclaredMethods()) {
            if (!java.lang.reflect.Modifier.isPublic(m.getModifiers())) continue;
            c.due("README.md names " + m.getName(), names(m.getName()) ? 1 : 0, 1);
        }
    }

    private void files() throws Exception {
        Path tests = root.resolve("src/test/java");
        try (Stream<Path> all = Files.list(tests)) {
            for (Path file : all.sorted().toList()) {
                String name = file.getFileName().toString().replace(".java", "");
                boolean told = names(name) || name.startsWith("Edges") && name.endsWith("Test") && names("Edges..Test");
                if (name.endsWith("Test")) c.due("README.md names " + name, told ? 1 : 0, 1);
            }
        }
        Matcher paths = Pattern.compile("`([\\w./]+/[\\w./]+)`").matcher(readme);
        while (paths.find()) c.due("there is " + paths.group(1), Files.exists(root.resolve(paths.group(1))) ? 1 : 0, 1);
        Matcher classes = Pattern.compile("`([A-Z]\\w*(Test|Model|Mutants))\\b").matcher(readme);
        while (classes.find()) {
            c.due("there is " + classes.group(1), Files.exists(tests.resolve(classes.group(1) + ".java")) ? 1 : 0, 1);
        }
    }
}
