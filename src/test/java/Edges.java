import java.lang.reflect.InvocationTargetException;
import java.lang.reflect.Method;
import java.nio.file.Files;
import java.nio.file.Path;
import java.util.ArrayList;
import java.util.Comparator;
import java.util.List;
import java.util.Set;
import java.util.TreeSet;
import java.util.function.Consumer;
import java.util.function.Supplier;

/**
 * Runs the tests of boundary cases of some promises: each method that bears an {@link Edge}, by name.
 * The words that an Edge names must stand in the document, so that a sentence that is changed there is seen here.
 */
abstract class Edges {
    static final int MIN = Integer.MIN_VALUE, MAX = Integer.MAX_VALUE;
    static final int BAD = -1, STATE = -2, FULL = -3, NONE = -4;
    /** Twelve CRACKS, four of each of the sizes 1 to 3, and five PIECES of each. */
    static final String TWELVE = "top 12;rack 1 5;rack 2 5;rack 3 5;at 1 1 crack 1;at 2 1 crack 1;at 3 1 crack 1;"
        + "at 4 1 crack 1;at 5 1 crack 2;at 6 1 crack 2;at 7 1 crack 2;at 8 1 crack 2;at 9 1 crack 3;at 10 1 crack 3;"
        + "at 11 1 crack 3;at 12 1 crack 3;";

    private final String document;
    private final Set<Integer> promises = new TreeSet<>();
    private final StringBuilder wrongs = new StringBuilder();

    Edges() {
        try {
            document = plain(Files.readString(Path.of(System.getProperty("document", "../shared/DOC.md"))));
        } catch (java.io.IOException e) {
            throw new java.io.UncheckedIOException(e);
        }
    }

    /** All the tests; the machine ends with 1 if one fails, or if one of the promises from to to has none. */
    final void run(int from, int to) {
        List<Method> tests = tests();
        int failed = 0;
        for (Method test : tests) failed += passes(test) ? 0 : 1;
        int passed = tests.size() - failed;
        for (int n = from; n <= to; n++) {
            if (promises.contains(n)) continue;
            failed++;
            System.out.println("FAILED: promise " + n + " has no test of an edge");
        }
        System.out.println(getClass().getName() + ": " + passed + " passed, " + failed + " failed");
        if (failed != 0) System.exit(1);
    }

    /** The name of the first test that fails, or "". */
    final String firstThatFails() {
        for (Method test : tests()) {
            if (!passes(test)) return test.getName();
        }
        return "";
    }

    private List<Method> tests() {
        List<Method> tests = new ArrayList<>();
        for (Method m : getClass().getDeclaredMethods()) {
            if (m.isAnnotationPresent(Edge.class)) tests.add(m);
        }
        tests.sort(Comparator.comparing(Method::getName));
        return tests;
    }

    private boolean passes(Method test) {
        Edge edge = test.getAnnotation(Edge.class);
        promises.add(edge.of());
        wrongs.setLength(0);
        due("the name tells the promise", test.getName().startsWith(String.format("p%02d", edge.of())) ? 1 : 0, 1);
        due("the document has the words", isTold(edge) ? 1 : 0, 1);
        try {
            test.invoke(this);
        } catch (IllegalAccessException | InvocationTargetException e) {
            wrongs.append("    threw ").append(e.getCause() == null ? e : e.getCause()).append('\n');
        }
        if (wrongs.length() == 0) return true;
        System.out.print("FAILED: " + test.getName() + " (promise " + edge.of() + ": \"" + edge.words() + "\")\n" + wrongs);
        return false;
    }

    private static String plain(String text) {
        return text.replaceAll("\\s+", " ");
    }

    private boolean isTold(Edge edge) {
        int first = document.indexOf("## Promise 1: ");
        int at = document.indexOf("## Promise " + edge.of() + ": ");
        if (first < 0 || at < 0) return false;
        int next = document.indexOf(" ## ", at + 1);
        return document.substring(0, first).contains(edge.words()) || document.substring(at, next).contains(edge.words());
    }

    // ---- what the tests say.

    final void due(String call, long got, long due) {
        if (got != due) wrongs.append("    ").append(call).append(" answered ").append(got).append(", due is ").append(due).append('\n');
    }

    /** A fraction, by its two parts. */
    final void part(String call, long numerator, long denominator, long due, long by) {
        due(call + " by parts, 0", numerator, due);
        due(call + " by parts, 1", denominator, by);
    }

    /** A text on a new object: what text() and fault() answer; THE TAPE is empty behind it. */
    final void text(String text, int due, int fault) {
        TwoOnWall x = new TwoOnWall();
        Check.type(x, text);
        due("text() of <" + text + ">", x.text(), due);
        due("fault() of <" + text + ">", x.fault(), fault);
        due("count(7) behind <" + text + ">", x.count(7), 0);
    }

    /** Calls that are refused: one object has them, its twin has not, and both answer alike ever after. */
    final void changesNothing(Supplier<TwoOnWall> made, Consumer<TwoOnWall> refused) {
        TwoOnWall x = made.get();
        refused.accept(x);
        List<String> is = All.of(x);
        List<String> was = All.of(made.get());
        for (int i = 0; i < was.size(); i++) {
            if (is.get(i).equals(was.get(i))) continue;
            wrongs.append("    refused, and changed: ").append(was.get(i)).append(" became ").append(is.get(i)).append('\n');
        }
    }
}
