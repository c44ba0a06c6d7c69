import java.math.BigInteger;
import java.util.ArrayList;
import java.util.HashSet;
import java.util.List;
import java.util.Map;
import java.util.Set;
import java.util.TreeMap;

/**
 * The document once more, in its plainest and dearest form: everything is tried out over all sets
 * and all rows. ModelTest compares the class with it. Rows are only tried out on small walls.
 */
class Model {
    static final int BAD = -1, STATE = -2, FULL = -3, NONE = -4;

    /** A wall as a text tells it; NEARLY and FITS are kept with the pieces. */
    static final class Told {
        final Map<String, Integer> rules = new TreeMap<>(Map.of(
            "top", 20, "strength", 200, "place", 10, "rope", 40, "give", 10,
            "fits", 18, "nearly", 10, "holds", 6, "low", 2));
        final int[] rack = new int[11];
        final int[] hard = new int[41], crack = new int[41], side = new int[41];
        final boolean[] ledge = new boolean[41], rest = new boolean[41];

        Told() {
            java.util.Arrays.fill(hard, 1);
            java.util.Arrays.fill(side, 5);
        }
    }

    /** What an image keeps. A piece: foot to {size, sling}. */
    static final class Hand {
        final TreeMap<Integer, int[]> pieces = new TreeMap<>();
        int[] rack = new int[11];
        int[][] tries = new int[2][2];
        int fits = 18, nearly = 10;

        Hand copy() {
            Hand c = new Hand();
            for (Map.Entry<Integer, int[]> e : pieces.entrySet()) c.pieces.put(e.getKey(), e.getValue().clone());
            c.rack = rack.clone();
            c.tries = new int[][] {tries[0].clone(), tries[1].clone()};
            c.fits = fits;
            c.nearly = nearly;
            return c;
        }
    }

    static final class Outcome {
        int stop = 0, holder = NONE, pull = 0, pops = 0, struck = NONE, harm = 0;
    }

    final List<Integer> tape = new ArrayList<>();
    Told w = new Told();
    Hand hand = new Hand();
    final Hand[] images = new Hand[2];
    final int[][] cells = new int[4][];
    final int[] lanes = new int[4];
    int textFault = 0, readFault = 0;

    int r(String name) {
        return w.rules.get(name);
    }

    int top() {
        return r("top");
    }

    boolean isFoot(int h) {
        return h >= 1 && h <= top();
    }

    // ---- the text.

    int feed(long v) {
        if (tape.size() + 8 > 400) return FULL;
        for (int shift = 56; shift >= 0; shift -= 8) tape.add((int) (v >> shift) & 255);
        return tape.size();
    }

    int end(int n) {
        if (n < 0 || n > tape.size()) return BAD;
        int had = tape.size();
        while (tape.size() > n) tape.remove(tape.size() - 1);
        return had;
    }

    static final class Fault extends Exception {
        private static final long serialVersionUID = 1;
        final int which, where;

        Fault(int which, int where) {
            this.which = which;
            this.where = where;
        }
    }

    /** Reads a text word by word from a String. */
    static final class Words {
        final String s;
        int i = 0;

        Words(String s) {
            this.s = s;
        }

        int skip() {
            while (i < s.length() && s.charAt(i) == ' ') i++;
            return i;
        }

        /** The next word, without taking it; "" at the end. */
        String look() throws Fault {
            skip();
            String rest = s.substring(i);
            if (rest.isEmpty()) return "";
            String name = rest.replaceFirst("(?s)^([a-z]*).*", "$1");
            if (!name.isEmpty()) return name;
            String number = rest.replaceFirst("(?s)^([0-9]*).*", "$1");
            if (number.length() > 3) throw new Fault(1, i);
            if (!number.isEmpty()) return number;
            if (rest.startsWith(";")) return ";";
            throw new Fault(1, i);
        }

        void take() throws Fault {
            i += look().length();
        }

        int number(int lo, int hi) throws Fault {
            String t = look();
            if (t.isEmpty() || !Character.isDigit(t.charAt(0))) throw new Fault(2, i);
            int v = Integer.parseInt(t);
            if (v < lo || v > hi) throw new Fault(3, i);
            return v;
        }
    }

    private static final Map<String, int[]> BOUNDS = Map.of("top", new int[] {1, 40}, "strength", new int[] {1, 999},
        "place", new int[] {0, 99}, "rope", new int[] {1, 60}, "give", new int[] {0, 50}, "fits", new int[] {0, 20},
        "holds", new int[] {0, 60}, "low", new int[] {0, 9});

    int text() {
        StringBuilder b = new StringBuilder();
        for (int c : tape) b.append((char) c);
        tape.clear();
        Told t = new Told();
        int lines;
        try {
            lines = readLines(new Words(b.toString()), t);
        } catch (Fault f) {
            textFault = f.which;
            return -10 - f.where;
        }
        textFault = 0;
        w = t;
        hand = new Hand();
        hand.rack = t.rack.clone();
        hand.fits = t.rules.get("fits");
        hand.nearly = t.rules.get("nearly");
        images[0] = null;
        images[1] = null;
        return lines;
    }

    private int readLines(Words words, Told t) throws Fault {
        Set<String> told = new HashSet<>();
        int highest = 0;
        int lines = 0;
        for (; !words.look().isEmpty(); lines++) {
            String name = words.look();
            if (name.equals("at")) {
                words.take();
                int h = words.number(1, 40);
                if (!told.add("at " + h)) throw new Fault(4, words.i);
                highest = Math.max(highest, h);
                words.take();
                t.hard[h] = words.number(0, 9);
                words.take();
                readWiths(words, t, h);
            } else if (name.equals("rack")) {
                words.take();
                int s = words.number(1, 10);
                if (!told.add("rack " + s)) throw new Fault(4, words.i);
                words.take();
                t.rack[s] = words.number(0, 5);
                words.take();
            } else if (BOUNDS.containsKey(name)) {
                if (!told.add(name)) throw new Fault(4, words.i);
                words.take();
                int[] of = BOUNDS.get(name);
                t.rules.put(name, words.number(of[0], of[1]));
                words.take();
                if (name.equals("fits")) {
                    t.rules.put("nearly", words.number(0, 20));
                    words.take();
                }
            } else {
                throw new Fault(2, words.i);
            }
            if (!words.look().equals(";")) throw new Fault(2, words.i);
            words.take();
        }
        if (highest > t.rules.get("top")) throw new Fault(5, words.s.length());
        return lines;
    }

    private void readWiths(Words words, Told t, int h) throws Fault {
        Set<String> told = new HashSet<>();
        while (!words.look().equals(";")) {
            String with = words.look();
            if (!Set.of("crack", "ledge", "rest", "side").contains(with)) throw new Fault(2, words.i);
            if (!told.add(with)) throw new Fault(4, words.i);
            words.take();
            switch (with) {
                case "ledge" -> t.ledge[h] = true;
                case "rest" -> t.rest[h] = true;
                case "crack" -> {
                    t.crack[h] = words.number(1, 10);
                    words.take();
                }
                default -> {
                    t.side[h] = words.number(0, 9);
                    words.take();
                }
            }
        }
    }

    int fault() {
        return textFault;
    }

    int rule(int what) {
        String[] names = {"top", "strength", "place", "rope", "give", "fits", "nearly", "holds", "low"};
        if (what == 5) return hand.fits;
        if (what == 6) return hand.nearly;
        if (what >= 0 && what < 9) return r(names[what]);
        return what >= 11 && what <= 20 ? hand.rack[what - 10] : BAD;
    }

    int foot(int h, int what) {
        if (!isFoot(h) || what < 0 || what > 5) return BAD;
        int[] all = {w.hard[h], w.crack[h], w.ledge[h] ? 1 : 0, w.rest[h] ? 1 : 0, w.side[h], numberAt(h)};
        return all[what];
    }

    // ---- pieces.

    List<Integer> feet() {
        return new ArrayList<>(hand.pieces.keySet());
    }

    int numberAt(int h) {
        int k = feet().indexOf(h);
        return k < 0 ? NONE : k;
    }

    int put(int h, int size) {
        if (!isFoot(h) || size < 1 || size > 10) return BAD;
        if (w.crack[h] == 0 || hand.pieces.containsKey(h) || Math.abs(w.crack[h] - size) >= 2) return STATE;
        if (hand.pieces.size() == 10) return FULL;
        if (hand.rack[size] == 0) return NONE;
        hand.rack[size]--;
        hand.pieces.put(h, new int[] {size, 0});
        return numberAt(h);
    }

    int take(int h) {
        if (!isFoot(h)) return BAD;
        if (!hand.pieces.containsKey(h)) return NONE;
        int size = hand.pieces.remove(h)[0];
        hand.rack[size]++;
        return size;
    }

    int sling(int h, boolean is) {
        if (!isFoot(h)) return BAD;
        if (!hand.pieces.containsKey(h)) return NONE;
        int had = hand.pieces.get(h)[1];
        hand.pieces.get(h)[1] = is ? 1 : 0;
        return had;
    }

    int chance(int k) {
        int h = feet().get(k);
        return hand.pieces.get(h)[0] == w.crack[h] ? hand.fits : hand.nearly;
    }

    /** The sides of the rope: the ground, the pieces, the top. */
    List<Integer> sides() {
        List<Integer> s = new ArrayList<>(List.of(5));
        for (int h : feet()) s.add(w.side[h]);
        s.add(w.side[top()]);
        return s;
    }

    int off(int k, boolean sling) {
        List<Integer> s = sides();
        int twice = Math.abs(2 * s.get(k + 1) - s.get(k) - s.get(k + 2));
        return sling ? twice / 2 : twice;
    }

    boolean lifted(int k) {
        List<Integer> s = sides();
        int here = s.get(k + 1);
        int nearer = Math.min(s.get(k) - here, s.get(k + 2) - here);
        int farther = Math.max(s.get(k) - here, s.get(k + 2) - here);
        return (nearer >= 2 || farther <= -2) && hand.pieces.get(feet().get(k))[1] == 0;
    }

    int piece(int k, int what) {
        if (k < 0 || k >= hand.pieces.size() || what < 0 || what > 6) return BAD;
        int h = feet().get(k);
        int[] p = hand.pieces.get(h);
        int[] all = {h, p[0], chance(k), p[0] + r("holds"), p[1], lifted(k) ? 1 : 0, off(k, p[1] == 1)};
        return all[what];
    }

    int strip() {
        int n = hand.pieces.size();
        for (int h : feet()) take(h);
        return n;
    }

    // ---- falls.

    /** A fall onto pieces: foot to size, those that are good by their feet. */
    Outcome fallOnto(TreeMap<Integer, Integer> sizes, Set<Integer> good, int h) {
        Outcome o = new Outcome();
        List<Integer> from = new ArrayList<>(sizes.keySet());
        for (int k = from.size() - 1; k >= 0; k--) {
            int at = from.get(k);
            if (at > h) continue;
            int drop = (h - at) * 2 + Math.floorDiv(r("give") * h, 100);
            int pull = Math.floorDiv(10 * drop, h) + 2;
            if (good.contains(at) && pull <= sizes.get(at) + r("holds")) {
                o.holder = k;
                o.pull = pull;
                o.stop = h - drop;
                break;
            }
            o.pops |= 1 << k;
        }
        for (int s = 0; s < h; s++) {
            if (s == 0 ? o.stop <= 0 : w.ledge[s] && s >= o.stop) o.struck = s;
        }
        o.harm = o.struck == NONE ? 0 : h - o.struck;
        return o;
    }

    TreeMap<Integer, Integer> sizes() {
        TreeMap<Integer, Integer> s = new TreeMap<>();
        for (int h : feet()) s.put(h, hand.pieces.get(h)[0]);
        return s;
    }

    Set<Integer> feetOf(int bits) {
        Set<Integer> s = new HashSet<>();
        for (int k = 0; k < feet().size(); k++) {
            if ((bits >> k & 1) == 1) s.add(feet().get(k));
        }
        return s;
    }

    boolean isBits(int bits) {
        return bits >= 0 && bits < 1 << hand.pieces.size();
    }

    Outcome fallHere(int h, int good) {
        return fallOnto(sizes(), feetOf(good), h);
    }

    int fall(int h, int good, int what) {
        if (!isFoot(h) || !isBits(good) || what < 0 || what > 5) return BAD;
        Outcome o = fallHere(h, good);
        int[] all = {Math.max(0, o.stop), o.holder, o.pull, o.pops, o.struck, o.harm};
        return all[what];
    }

    /** The weight of a set being good, of 20 to the number of pieces. */
    BigInteger weight(int good) {
        BigInteger v = BigInteger.ONE;
        for (int k = 0; k < hand.pieces.size(); k++) {
            v = v.multiply(BigInteger.valueOf((good >> k & 1) == 1 ? chance(k) : 20 - chance(k)));
        }
        return v;
    }

    static long fraction(BigInteger a, BigInteger b, int what) {
        BigInteger g = a.gcd(b);
        return (what == 0 ? a : b).divide(g).longValueExact();
    }

    private long overAll(int h, int what, java.util.function.ToIntFunction<Outcome> worth) {
        BigInteger sum = BigInteger.ZERO;
        for (int good = 0; good < 1 << hand.pieces.size(); good++) {
            sum = sum.add(weight(good).multiply(BigInteger.valueOf(worth.applyAsInt(fallHere(h, good)))));
        }
        return fraction(sum, BigInteger.valueOf(20).pow(hand.pieces.size()), what);
    }

    long harm(int h, int d, int what) {
        if (!isFoot(h) || d < 1 || d > 40 || what < 0 || what > 1) return BAD;
        return overAll(h, what, o -> o.harm >= d ? 1 : 0);
    }

    long mean(int h, int what) {
        if (!isFoot(h) || what < 0 || what > 1) return BAD;
        return overAll(h, what, o -> o.harm);
    }

    int riskOf(TreeMap<Integer, Integer> sizes) {
        int sum = 0;
        for (int h = 1; h <= top(); h++) {
            if (h > r("low")) sum += w.hard[h] * fallOnto(sizes, sizes.keySet(), h).harm;
        }
        return sum;
    }

    /** {effort at top, first foot where it is too much or NONE}. */
    int[] effortOf(Set<Integer> feet) {
        int sum = 0;
        int first = NONE;
        for (int h = 1; h <= top(); h++) {
            sum += w.hard[h];
            if (sum > r("strength") && first == NONE) first = h;
            if (feet.contains(h)) sum += r("place");
            if (sum > r("strength") && first == NONE) first = h;
            if (w.rest[h]) sum = 0;
        }
        return new int[] {sum, first};
    }

    int risk(int what) {
        if (what < 0 || what > 4) return BAD;
        if (what == 0) return riskOf(sizes());
        if (what < 3) return effortOf(sizes().keySet())[what - 1];
        int worst = 0;
        int at = NONE;
        for (int h = top(); h >= 1; h--) {
            int harm = fallOnto(sizes(), sizes().keySet(), h).harm;
            if (harm > 0 && harm >= worst) {
                worst = harm;
                at = h;
            }
        }
        return what == 3 ? at : worst;
    }

    int needless() {
        int bits = 0;
        for (int k = 0; k < feet().size(); k++) {
            TreeMap<Integer, Integer> less = sizes();
            less.remove(feet().get(k));
            if (riskOf(less) <= riskOf(sizes())) bits |= 1 << k;
        }
        return bits;
    }

    // ---- plans.

    List<Integer> cracks() {
        List<Integer> c = new ArrayList<>();
        for (int h = 1; h <= top(); h++) {
            if (w.crack[h] != 0 && c.size() < 10) c.add(h);
        }
        return c;
    }

    TreeMap<Integer, Integer> planned() {
        List<Integer> cracks = cracks();
        TreeMap<Integer, Integer> best = null;
        for (int bits = 0; bits < 1 << cracks.size(); bits++) {
            TreeMap<Integer, Integer> row = new TreeMap<>();
            int[] used = new int[11];
            boolean enough = true;
            for (int c = 0; c < cracks.size(); c++) {
                if ((bits >> c & 1) == 0) continue;
                int size = w.crack[cracks.get(c)];
                row.put(cracks.get(c), size);
                if (++used[size] > w.rack[size]) enough = false;
            }
            if (!enough || effortOf(row.keySet())[1] != NONE) continue;
            if (best == null || riskOf(row) < riskOf(best)
                || riskOf(row) == riskOf(best) && row.size() < best.size()) best = row;
        }
        return best;
    }

    private static boolean isRow(int what, int few, int many) {
        return what >= 0 && what < few || what >= 10 && what < 10 + many;
    }

    int plan(int what) {
        TreeMap<Integer, Integer> p = planned();
        if (!isRow(what, 2, p == null ? 0 : p.size())) return BAD;
        if (p == null) return NONE;
        if (what == 0) return riskOf(p);
        return what == 1 ? p.size() : new ArrayList<>(p.keySet()).get(what - 10);
    }

    TreeMap<Integer, Integer> byRule(int r) {
        TreeMap<Integer, Integer> row = new TreeMap<>();
        int[] left = w.rack.clone();
        for (int h : cracks()) {
            int last = row.isEmpty() ? 0 : row.lastKey();
            if (h < last + r || left[w.crack[h]] == 0) continue;
            left[w.crack[h]]--;
            row.put(h, w.crack[h]);
        }
        return row;
    }

    int keep(int r, int what) {
        if (r < 1 || r > 40 || what < 0 || what > 2) return BAD;
        TreeMap<Integer, Integer> row = byRule(r);
        if (what == 0) return riskOf(row);
        return what == 1 ? row.size() : effortOf(row.keySet())[1] == NONE ? 0 : 1;
    }

    int best(int what) {
        if (what < 0 || what > 2) return BAD;
        int best = 0;
        for (int r = 40; r >= 1; r--) {
            if (keep(r, 2) == 1) continue;
            if (best == 0 || keep(r, 0) < keep(best, 0)) best = r;
        }
        if (best == 0 || planned() == null) return NONE;
        if (what == 0) return best;
        return what == 1 ? keep(best, 0) : keep(best, 0) - plan(0);
    }

    int adopt() {
        TreeMap<Integer, Integer> p = planned();
        if (p == null) return NONE;
        strip();
        for (Map.Entry<Integer, Integer> e : p.entrySet()) put(e.getKey(), e.getValue());
        return hand.pieces.size();
    }

    // ---- the rope.

    int drag(int what) {
        int sum = 0;
        int bits = 0;
        for (int k = 0; k < feet().size(); k++) {
            sum += piece(k, 6);
            bits |= piece(k, 5) << k;
        }
        if (what == 0) return sum;
        if (what == 1) return bits;
        return what == 2 ? top() + sum / 10 : BAD;
    }

    int slings(int n, int what) {
        if (n < 0 || n > 10 || what < 0 || what > 1) return BAD;
        int best = 0;
        int least = Integer.MAX_VALUE;
        for (int bits = 0; bits < 1 << feet().size(); bits++) {
            if (Integer.bitCount(bits) > n) continue;
            int sum = 0;
            for (int k = 0; k < feet().size(); k++) sum += off(k, (bits >> k & 1) == 1);
            if (sum < least || sum == least && Integer.bitCount(bits) < Integer.bitCount(best)) {
                least = sum;
                best = bits;
            }
        }
        return what == 0 ? least : best;
    }

    boolean stance(int h) {
        return h == top() || w.ledge[h] || w.rest[h];
    }

    /** The least row of stances from a foot with just so many pitches; null. */
    private List<Integer> stances(int at, int n) {
        if (n == 0) return at == top() ? new ArrayList<>() : null;
        for (int s = at + 1; s <= top() && s <= at + r("rope"); s++) {
            if (!stance(s)) continue;
            List<Integer> row = stances(s, n - 1);
            if (row == null) continue;
            row.add(0, s);
            return row;
        }
        return null;
    }

    List<Integer> pitchRow() {
        for (int n = 1; n <= top(); n++) {
            List<Integer> row = stances(0, n);
            if (row != null) return row;
        }
        return List.of();
    }

    int pitches(int what) {
        List<Integer> row = pitchRow();
        if (!isRow(what, 1, row.size())) return BAD;
        if (row.isEmpty()) return NONE;
        return what == 0 ? row.size() : row.get(what - 10);
    }

    int leads(int a, int b, boolean turns, int what) {
        if (a < 1 || a > 9 || b < 1 || b > 9) return BAD;
        List<Integer> row = pitchRow();
        int n = row.size();
        if (!isRow(what, 1, n)) return BAD;
        if (n == 0) return NONE;
        int least = Integer.MAX_VALUE;
        int who = 0;
        // The first pitch is the highest bit, so that going up through the numbers goes up through the rows.
        for (int bits = 0; bits < 1 << n; bits++) {
            int sum = 0;
            boolean fits = true;
            for (int i = 0; i < n; i++) {
                int lead = bits >> (n - 1 - i) & 1;
                if (turns && i > 0 && lead == (bits >> (n - i) & 1)) fits = false;
                int hard = 0;
                for (int h = i == 0 ? 1 : row.get(i - 1) + 1; h <= row.get(i); h++) hard += w.hard[h];
                sum += (int) Math.ceil((double) hard / (lead == 0 ? a : b));
            }
            if (fits && sum < least) {
                least = sum;
                who = bits;
            }
        }
        return what == 0 ? least : who >> (n - 1 - (what - 10)) & 1;
    }

    private int leftFrom(int h) {
        if (h == 0) return 0;
        int best = 1000;
        for (int g = h - 1; g >= 0 && h - g <= r("rope") / 2; g--) {
            if (g == 0 || stance(g)) best = Math.min(best, leftFrom(g) + (stance(h) ? 1 : 2));
        }
        return best;
    }

    int down(int h) {
        if (h < 0 || h > top()) return BAD;
        int left = leftFrom(h);
        return left >= 1000 ? NONE : left;
    }

    // ---- tries.

    int tried(int seen, boolean held) {
        if (seen != 0 && seen != 1) return BAD;
        if (count(5) == 999) return FULL;
        hand.tries[seen][held ? 1 : 0]++;
        return hand.tries[seen][0] + hand.tries[seen][1];
    }

    int eye(int seen, int what) {
        if (seen < 0 || seen > 1 || what < 0 || what > 1) return BAD;
        int all = hand.tries[seen][0] + hand.tries[seen][1];
        if (all == 0) return NONE;
        return (int) fraction(BigInteger.valueOf(hand.tries[seen][1]), BigInteger.valueOf(all), what);
    }

    int learn() {
        int fits = hand.fits;
        int nearly = hand.nearly;
        if (eye(0, 0) != NONE) hand.fits = (int) Math.floor(20.0 * eye(0, 0) / eye(0, 1) + 0.5);
        if (eye(1, 0) != NONE) hand.nearly = (int) Math.floor(20.0 * eye(1, 0) / eye(1, 1) + 0.5);
        return (fits == hand.fits ? 0 : 1) + (nearly == hand.nearly ? 0 : 1);
    }

    // ---- stories, bolts.

    private boolean isSo(Outcome o, int popped, int hung) {
        return o.pops == popped && Math.max(o.stop, 0) == hung;
    }

    long story(int popped, int hung) {
        if (!isBits(popped) || hung < 0 || hung > top()) return BAD;
        long bits = 0;
        for (int h = 1; h <= top(); h++) {
            if (isSo(fallHere(h, (1 << feet().size()) - 1 - popped), popped, hung)) bits |= 1L << h;
        }
        return bits;
    }

    long odds(int popped, int hung, int h, int what) {
        if (!isBits(popped) || hung < 0 || hung > top() || !isFoot(h) || what < 0 || what > 1) return BAD;
        BigInteger all = BigInteger.ZERO;
        BigInteger here = BigInteger.ZERO;
        for (int f = 1; f <= top(); f++) {
            for (int good = 0; good < 1 << feet().size(); good++) {
                if (!isSo(fallHere(f, good), popped, hung)) continue;
                BigInteger likely = weight(good).multiply(BigInteger.valueOf(w.hard[f]));
                all = all.add(likely);
                if (f == h) here = here.add(likely);
            }
        }
        return all.signum() == 0 ? NONE : fraction(here, all, what);
    }

    boolean boltsDo(List<Integer> row) {
        for (int h = 1; h <= top(); h++) {
            if (h <= r("low") && (row.isEmpty() || h <= row.get(0))) continue;
            int at = 0;
            for (int b : row) {
                if (b <= h) at = b;
            }
            int stop = at == 0 ? 0 : h - 2 * (h - at) - r("give") * h / 100;
            if (stop <= 0) return false;
            for (int s = stop; s < h; s++) {
                if (w.ledge[s]) return false;
            }
        }
        return true;
    }

    List<Integer> boltRow() {
        List<Integer> best = null;
        for (int bits = 0; bits < 1 << top(); bits++) {
            List<Integer> row = new ArrayList<>();
            // The lowest foot is the highest bit, so that among as many bits the greatest number is the least row.
            for (int h = 1; h <= top(); h++) {
                if ((bits >> (top() - h) & 1) == 1) row.add(h);
            }
            if (best != null && row.size() > best.size()) continue;
            if (boltsDo(row)) best = row;
        }
        return best;
    }

    int bolts(int what) {
        List<Integer> row = boltRow();
        if (!isRow(what, 1, row == null ? 0 : row.size())) return BAD;
        if (row == null) return NONE;
        return what == 0 ? row.size() : row.get(what - 10);
    }

    // ---- images, sheets.

    int image(int i) {
        if (i != 0 && i != 1) return BAD;
        int had = images[i] == null ? 0 : 1;
        images[i] = hand.copy();
        return had;
    }

    int back(int i) {
        if (i != 0 && i != 1) return BAD;
        if (images[i] == null) return STATE;
        hand = images[i].copy();
        return hand.pieces.size();
    }

    int sheet(int k, int lane, int n) {
        if (k < 0 || k > 3 || lane < 0 || lane > 2 || n > 40) return BAD;
        if (n < 0) return -14;
        cells[k] = new int[n];
        lanes[k] = lane;
        return 1;
    }

    int lay(int k, int i, int v) {
        if (k < 0 || k > 3) return BAD;
        if (cells[k] == null) return -11;
        if (i < 0 || i >= cells[k].length) return -12;
        int shift = lanes[k] == 0 ? 24 : lanes[k] == 1 ? 16 : 0;
        cells[k][i] = v << shift >> shift;
        return 1;
    }

    int read(int k, int lane, int f, int n) {
        if (k < 0 || k > 3 || lane < 0 || lane > 2 || n < 0 || n > 10) return BAD;
        Hand before = hand.copy();
        int met = 0;
        int came = 0;
        while (came < n) {
            long cell = (long) f + 2L * came;
            if (cells[k] == null) met = 1;
            else if (lanes[k] != lane) met = 3;
            else if (cell < 0 || cell + 1 >= cells[k].length) met = 2;
            if (met != 0) break;
            if (put(cells[k][(int) cell], cells[k][(int) cell + 1]) < 0) {
                hand = before;
                return -20 - came;
            }
            came++;
        }
        readFault = met;
        return came;
    }

    int torn() {
        return readFault;
    }

    int count(int what) {
        int n = 0;
        switch (what) {
            case 0:
                return hand.pieces.size();
            case 1:
                for (int h = 1; h <= top(); h++) n += w.crack[h] > 0 ? 1 : 0;
                return n;
            case 2:
                for (int h = 1; h <= top(); h++) n += w.ledge[h] ? 1 : 0;
                return n;
            case 3:
                for (int h = 1; h <= top(); h++) n += w.rest[h] ? 1 : 0;
                return n;
            case 4:
                for (int s : hand.rack) n += s;
                return n;
            case 5:
                return hand.tries[0][0] + hand.tries[0][1] + hand.tries[1][0] + hand.tries[1][1];
            case 6:
                return (images[0] == null ? 0 : 1) + (images[1] == null ? 0 : 1);
            case 7:
                return tape.size();
            case 8:
                return cells[0] == null ? NONE : cells[0].length;
            default:
                return BAD;
        }
    }
}
