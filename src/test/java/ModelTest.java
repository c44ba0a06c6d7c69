import java.util.Random;

/** Runs of random calls (the same ones each time), each answered by the class and by the Model (on high walls: the WideModel) alike. */
public final class ModelTest {
    private static final int MOST_CALLS = 512;
    private static final int RUNS = 400;
    /** Every so many runs one is on high walls. */
    private static final int WIDE = 4;

    private final Random random;
    private final TwoOnWall x = new TwoOnWall();
    private final boolean wide;
    private final Model m;
    private final StringBuilder told = new StringBuilder();
    private int calls = 0;
    private boolean same = true;

    private ModelTest(long seed) {
        random = new Random(seed);
        wide = seed % WIDE == 0;
        m = wide ? new WideModel() : new Model();
    }

    public static void main(String[] args) {
        long first = args.length > 0 ? Long.parseLong(args[0]) : 1;
        int runs = args.length > 1 ? Integer.parseInt(args[1]) : RUNS;
        int wrong = 0;
        for (long seed = first; seed < first + runs; seed++) {
            ModelTest t = new ModelTest(seed);
            t.run();
            if (t.same) continue;
            wrong++;
            System.out.println("seed " + seed + "\n" + t.told);
        }
        System.out.println("ModelTest: " + runs + " runs, " + wrong + " wrong");
        if (wrong != 0) System.exit(1);
    }

    private void same(String call, long got, long due) {
        calls++;
        told.append("  ").append(call).append(" -> ").append(got);
        if (got != due) {
            told.append(", due is ").append(due);
            same = false;
        }
        told.append('\n');
    }

    private void run() {
        while (calls < MOST_CALLS - 60 && same) {
            if (calls == 0 && random.nextInt(10) > 0 || random.nextInt(60) == 0) tellText();
            else call();
        }
    }

    // ---- texts.

    private int upTo(int most) {
        return random.nextInt(most + 1);
    }

    private int among(int least, int most) {
        return least + random.nextInt(most - least + 1);
    }

    private boolean mostly() {
        return random.nextInt(12) > 0;
    }

    private String blanks() {
        return mostly() ? "" : " ".repeat(upTo(3));
    }

    private String wallText() {
        StringBuilder b = new StringBuilder();
        int top = wide ? among(13, 40) : among(1, 12);
        b.append("top ").append(top).append(';');
        if (random.nextBoolean()) b.append("rope ").append(among(1, top + 4)).append(';');
        if (random.nextInt(3) == 0) b.append("strength ").append(among(1, wide ? 200 : 60)).append(" ;");
        if (random.nextInt(3) == 0) b.append("place").append(upTo(12)).append(';');
        if (random.nextBoolean()) b.append("give ").append(upTo(50)).append(';');
        if (random.nextInt(3) == 0) b.append("fits ").append(upTo(20)).append(' ').append(upTo(20)).append(';');
        if (random.nextBoolean()) b.append("holds ").append(upTo(mostly() ? 20 : 60)).append(';');
        if (random.nextBoolean()) b.append("low ").append(upTo(9)).append(';');
        int sizes = among(1, 3);
        for (int s = 1; s <= sizes; s++) b.append("rack ").append(s).append(' ').append(upTo(5)).append(';');
        boolean many = random.nextInt(4) == 0;
        // Of a high wall so many FEET are told, from anywhere, as a text has room for.
        int step = wide ? among(1, 40) : 1;
        for (int i = 1; i <= Math.min(top, 24); i++) {
            // 41 is prime: no FOOT is met twice.
            int h = i * step % 41;
            if (h > top || random.nextInt(4) == 0 && !many) continue;
            b.append("at ").append(h).append(' ').append(mostly() ? among(0, 9) : 0).append(blanks());
            if (random.nextInt(3) > 0 || many) b.append("crack ").append(among(1, sizes)).append(blanks());
            if (random.nextInt(6) == 0) b.append("ledge").append(blanks());
            if (random.nextInt(6) == 0) b.append(" rest").append(blanks());
            if (random.nextBoolean() && !many) b.append(" side ").append(upTo(9)).append(blanks());
            b.append(';');
        }
        return b.length() > 400 ? b.substring(0, b.lastIndexOf(";", 399) + 1) : b.toString();
    }

    private String spoiled(String text) {
        String[] words = {"at 3 ", "rack 2 1;", "ledge ", ";", " 1000 ", "x", ",", "low 3;", "41", " 0 ", "A", " ", "crack 0",
            "\u00ff", "rest", "side 9", "1", "fits 3 ", "top 40;", "at 40 0;"};
        StringBuilder b = new StringBuilder(text);
        for (int n = among(1, 2); n > 0; n--) {
            int at = upTo(b.length());
            if (random.nextBoolean()) b.insert(at, words[random.nextInt(words.length)]);
            else b.delete(at, Math.min(b.length(), at + among(1, 4)));
        }
        return b.length() > 400 ? b.substring(0, 400) : b.toString();
    }

    private void tellText() {
        String text = wallText();
        if (random.nextInt(3) == 0) text = spoiled(text);
        told.append("  # ").append(text).append('\n');
        same("end(0)", x.end(0), m.end(0));
        for (int i = 0; i < text.length(); i += 8) {
            long v = 0;
            for (int j = i; j < i + 8; j++) v = v << 8 | (j < text.length() ? text.charAt(j) : ' ');
            same("feed(" + v + ")", x.feed(v), m.feed(v));
        }
        if (random.nextBoolean()) same("end(" + text.length() + ")", x.end(text.length()), m.end(text.length()));
        same("text()", x.text(), m.text());
        same("fault()", x.fault(), m.fault());
    }

    // ---- calls.

    private int aFoot() {
        return mostly() ? among(1, m.top()) : among(-1, 42);
    }

    private int someBits() {
        int n = m.hand.pieces.size();
        return mostly() ? random.nextInt(1 << n) : mostly() ? 1 << n : random.nextInt();
    }

    private int what(int most) {
        return mostly() ? upTo(most) : mostly() ? among(-1, most + 1) : random.nextInt();
    }

    /** What is asked of a row: one of the first few, or one of it. */
    private int rowWhat(int few) {
        return random.nextBoolean() ? upTo(few) : among(9, wide ? 22 : 15);
    }

    private boolean small() {
        return wide || m.top() <= 12;
    }

    private void call() {
        switch (random.nextInt(6)) {
            case 0 -> callWall();
            case 1, 2 -> callPieces();
            case 3 -> callFalls();
            case 4 -> callRows();
            default -> callSheets();
        }
    }

    private void callWall() {
        int h = aFoot();
        int w = what(5);
        switch (random.nextInt(6)) {
            case 0 -> same("foot(" + h + ", " + w + ")", x.foot(h, w), m.foot(h, w));
            case 1 -> {
                int what = among(-1, 21);
                same("rule(" + what + ")", x.rule(what), m.rule(what));
            }
            case 2 -> {
                int what = among(-1, 9);
                same("count(" + what + ")", x.count(what), m.count(what));
            }
            case 3 -> {
                boolean held = random.nextBoolean();
                int seen = what(1);
                same("tried(" + seen + ", " + held + ")", x.tried(seen, held), m.tried(seen, held));
            }
            case 4 -> {
                int seen = what(1);
                int part = what(1);
                same("eye(" + seen + ", " + part + ")", x.eye(seen, part), m.eye(seen, part));
            }
            default -> {
                if (random.nextInt(4) == 0) same("learn()", x.learn(), m.learn());
            }
        }
    }

    private void callPieces() {
        int h = aFoot();
        switch (random.nextInt(12)) {
            case 0 -> same("take(" + h + ")", x.take(h), m.take(h));
            case 1 -> {
                boolean is = random.nextBoolean();
                same("sling(" + h + ", " + is + ")", x.sling(h, is), m.sling(h, is));
            }
            case 2, 3 -> {
                int k = among(-1, m.hand.pieces.size());
                int w = what(6);
                same("piece(" + k + ", " + w + ")", x.piece(k, w), m.piece(k, w));
            }
            case 4 -> {
                if (random.nextInt(6) == 0) same("strip()", x.strip(), m.strip());
            }
            case 5 -> {
                if (random.nextInt(6) == 0) same("adopt()", x.adopt(), m.adopt());
            }
            default -> {
                int size = among(-1, 1) + (m.isFoot(h) ? m.w.crack[h] : 0);
                if (!mostly()) size = among(-1, 12);
                same("put(" + h + ", " + size + ")", x.put(h, size), m.put(h, size));
            }
        }
    }

    private void callFalls() {
        int h = aFoot();
        int w = what(1);
        switch (random.nextInt(9)) {
            case 0, 1, 2 -> {
                int good = someBits();
                int what = what(5);
                same("fall(" + h + ", " + good + ", " + what + ")", x.fall(h, good, what), m.fall(h, good, what));
            }
            case 3 -> {
                int d = mostly() ? among(1, 12) : among(-1, 42);
                same("harm(" + h + ", " + d + ", " + w + ")", x.harm(h, d, w), m.harm(h, d, w));
            }
            case 4 -> same("mean(" + h + ", " + w + ")", x.mean(h, w), m.mean(h, w));
            case 5 -> {
                int what = what(4);
                same("risk(" + what + ")", x.risk(what), m.risk(what));
            }
            case 6 -> same("needless()", x.needless(), m.needless());
            default -> callStory(w);
        }
    }

    /** A story that can have been, mostly: it is what came of some fall. */
    private void callStory(int w) {
        int from = among(1, m.top());
        Model.Outcome o = m.fallHere(from, random.nextInt(1 << m.hand.pieces.size()));
        int popped = mostly() ? o.pops : someBits();
        int hung = mostly() ? Math.max(0, o.stop) : aFoot();
        int h = random.nextBoolean() ? from : aFoot();
        same("story(" + popped + ", " + hung + ")", x.story(popped, hung), m.story(popped, hung));
        same("odds(" + popped + ", " + hung + ", " + h + ", " + w + ")", x.odds(popped, hung, h, w), m.odds(popped, hung, h, w));
    }

    private void callRows() {
        int r = mostly() ? among(1, 13) : among(-1, 42);
        int what = what(2);
        int few = rowWhat(2);
        switch (random.nextInt(9)) {
            case 0 -> same("plan(" + few + ")", x.plan(few), m.plan(few));
            case 1 -> same("keep(" + r + ", " + what + ")", x.keep(r, what), m.keep(r, what));
            case 2 -> same("best(" + what + ")", x.best(what), m.best(what));
            case 3 -> same("drag(" + what + ")", x.drag(what), m.drag(what));
            case 4 -> {
                int n = mostly() ? upTo(10) : among(-1, 11);
                int part = what(1);
                same("slings(" + n + ", " + part + ")", x.slings(n, part), m.slings(n, part));
            }
            case 5 -> {
                if (small()) same("pitches(" + few + ")", x.pitches(few), m.pitches(few));
            }
            case 6 -> {
                int a = mostly() ? among(1, 9) : among(-1, 11);
                int b = mostly() ? among(1, 9) : among(-1, 11);
                boolean turns = random.nextBoolean();
                String call = "leads(" + a + ", " + b + ", " + turns + ", " + few + ")";
                if (small()) same(call, x.leads(a, b, turns, few), m.leads(a, b, turns, few));
            }
            case 7 -> {
                int h = mostly() ? among(0, m.top()) : aFoot();
                if (small()) same("down(" + h + ")", x.down(h), m.down(h));
            }
            default -> {
                if (small()) same("bolts(" + few + ")", x.bolts(few), m.bolts(few));
            }
        }
    }

    private void callSheets() {
        int k = mostly() ? upTo(1) : among(-1, 4);
        int lane = mostly() ? upTo(1) : among(-1, 3);
        switch (random.nextInt(9)) {
            case 0 -> {
                int n = mostly() ? among(0, 12) : among(-2, 42);
                same("sheet(" + k + ", " + lane + ", " + n + ")", x.sheet(k, lane, n), m.sheet(k, lane, n));
            }
            case 1, 2 -> {
                int i = mostly() ? upTo(12) : among(-2, 42);
                int v = mostly() ? among(1, 4) : random.nextInt();
                same("lay(" + k + ", " + i + ", " + v + ")", x.lay(k, i, v), m.lay(k, i, v));
            }
            case 3 -> layPieces();
            case 4, 5 -> {
                int f = mostly() ? upTo(4) : random.nextInt(3) == 0 ? Integer.MAX_VALUE - upTo(3) : random.nextInt();
                int n = mostly() ? upTo(3) : among(-1, 11);
                String call = "read(" + k + ", " + lane + ", " + f + ", " + n + ")";
                same(call, x.read(k, lane, f, n), m.read(k, lane, f, n));
                same("torn()", x.torn(), m.torn());
            }
            default -> {
                int i = mostly() ? upTo(1) : among(-1, 2);
                if (random.nextInt(3) > 0) same("image(" + i + ")", x.image(i), m.image(i));
                else same("back(" + i + ")", x.back(i), m.back(i));
            }
        }
    }

    /** Pieces that fit, laid into sheet 0 one behind another, and read. */
    private void layPieces() {
        int n = among(1, 4);
        int lane = upTo(2);
        int many = 2 * n - (mostly() ? 0 : 1);
        same("sheet(0, " + lane + ", " + many + ")", x.sheet(0, lane, many), m.sheet(0, lane, many));
        for (int i = 0; i < n; i++) {
            int h = among(1, m.top());
            int size = m.w.crack[h];
            same("lay(0, " + 2 * i + ", " + h + ")", x.lay(0, 2 * i, h), m.lay(0, 2 * i, h));
            same("lay(0, " + (2 * i + 1) + ", " + size + ")", x.lay(0, 2 * i + 1, size), m.lay(0, 2 * i + 1, size));
        }
        same("read(0, " + lane + ", 0, " + n + ")", x.read(0, lane, 0, n), m.read(0, lane, 0, n));
        same("torn()", x.torn(), m.torn());
    }
}
