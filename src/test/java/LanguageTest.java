import java.lang.reflect.Constructor;
import java.lang.reflect.Field;
import java.lang.reflect.Method;
import java.lang.reflect.Modifier;
import java.nio.file.Files;
import java.nio.file.Path;
import java.util.ArrayList;
import java.util.List;
import java.util.Set;
import java.util.TreeSet;
import java.util.regex.Matcher;
import java.util.regex.Pattern;

/** What of ../shared/LANGUAGE.md, and of the face of ../shared/DOC.md, can be seen in the source and the class. */
public final class LanguageTest {
    private static final Check c = new Check("LanguageTest");

    public static void main(String[] args) throws Exception {
        Path source = Path.of(System.getProperty("source", "src/main/java/TwoOnWall.java"));
        String code = withoutComments(Files.readString(source));
        words(code);
        names();
        sizes(code);
        face();
        c.end();
    }

    private static String withoutComments(String s) {
        return s.replaceAll("(?s)/\\*.*?\\*/", "").replaceAll("//[^\n]*", "");
    }

    private static void words(String code) {
        String[] none = {"\\bthrow\\b", "\\bthrows\\b", "\\btry\\b", "\\bcatch\\b", "\\bsynchronized\\b", "\\bassert\\b", "->", "::",
            "\\bimport\\b", "\\bpackage\\b", "\\bObject\\b", "\\bSystem\\b", "\\bthread\\b", "\\bprotected\\b", "\\bfinally\\b",
            "@", "Exact\\(", "\\bequals\\b", "\\bhashCode\\b", "\\btoString\\b", "\\bdouble\\b", "\\bfloat\\b", "\\bstatic \\{"};
        for (String word : none) {
            Matcher m = Pattern.compile(word).matcher(code);
            c.due("the source has " + word, m.find() ? 1 : 0, 0);
        }
        for (int i = 0; i < code.length(); i++) {
            if (code.charAt(i) > 126) c.due("sign " + (int) code.charAt(i), 1, 0);
        }
    }

    /** No private method bears the name of a public one; classes inside are static. */
    private static void names() {
        Set<String> open = new TreeSet<>();
        for (Method m : TwoOnWall.class.getDeclaredMethods()) {
            if (Modifier.isPublic(m.getModifiers())) open.add(m.getName());
        }
        List<Class<?>> all = new ArrayList<>(List.of(TwoOnWall.class.getDeclaredClasses()));
        c.due("classes inside, the outer one too, are some twelve", all.size() < 12 ? 1 : 0, 1);
        for (Class<?> inside : all) {
            c.due(inside + " is static", Modifier.isStatic(inside.getModifiers()) ? 1 : 0, 1);
            c.due(inside + " is open", inside.getModifiers() & (Modifier.PUBLIC | Modifier.PROTECTED), 0);
        }
        all.add(TwoOnWall.class);
        for (Class<?> of : all) {
            for (Method m : of.getDeclaredMethods()) {
                if (Modifier.isPrivate(m.getModifiers())) c.due("private " + m, open.contains(m.getName()) ? 1 : 0, 0);
                c.due("parameters of " + m, m.getParameterCount() <= 7 ? 1 : 0, 1);
            }
            int fields = 0;
            for (Field f : of.getDeclaredFields()) {
                if (!Modifier.isStatic(f.getModifiers())) fields++;
                else c.due("final " + f, Modifier.isFinal(f.getModifiers()) ? 1 : 0, 1);
            }
            c.due("fields of " + of + ": " + fields, fields <= 20 ? 1 : 0, 1);
        }
    }

    private static void sizes(String code) {
        String[] lines = code.split("\n");
        int start = -1;
        for (int i = 0; i < lines.length; i++) {
            c.due("length of line " + lines[i], lines[i].length() <= 120 ? 1 : 0, 1);
            if (lines[i].matches("( {4}| {8})[\\w\\[\\] ]+\\(.*\\) \\{")) start = i;
            if (start >= 0 && lines[i].matches("( {4}| {8})\\}")) {
                c.due("lines of " + lines[start], i - start <= 40 ? 1 : 0, 1);
                start = -1;
            }
        }
    }

    private static void face() throws Exception {
        Path doc = Path.of(System.getProperty("source", "src/main/java/TwoOnWall.java")).toAbsolutePath()
            .getParent().getParent().getParent().getParent().resolve("../shared/DOC.md");
        Set<String> due = new TreeSet<>();
        Matcher m = Pattern.compile("(?m)^    public (\\w+) (\\w+)\\(([^)]*)\\);").matcher(Files.readString(doc));
        while (m.find()) due.add(m.group(1) + " " + m.group(2) + "(" + m.group(3).replaceAll(" \\w+(,|$)", "$1") + ")");
        Set<String> is = new TreeSet<>();
        for (Method method : TwoOnWall.class.getDeclaredMethods()) {
            if (Modifier.isPrivate(method.getModifiers()) || method.isSynthetic()) continue;
            List<String> types = new ArrayList<>();
            for (Class<?> type : method.getParameterTypes()) types.add(type.getName());
            is.add(method.getReturnType().getName() + " " + method.getName() + "(" + String.join(", ", types) + ")");
        }
        c.due("methods of the document", due.size(), 38);
        c.due("the face " + is, is.equals(due) ? 1 : 0, 1);
        Constructor<?>[] made = TwoOnWall.class.getDeclaredConstructors();
        c.due("constructors", made.length, 1);
        c.due("the class is public and final", TwoOnWall.class.getModifiers(), Modifier.PUBLIC | Modifier.FINAL);
        for (Field f : TwoOnWall.class.getDeclaredFields()) {
            boolean open = Set.of("BAD", "STATE", "FULL", "NONE").contains(f.getName());
            c.due("field " + f, Modifier.isPublic(f.getModifiers()) == open && Modifier.isPrivate(f.getModifiers()) != open ? 1 : 0, 1);
        }
    }
}
