import java.util.ArrayList;
import java.util.List;
import java.util.TreeMap;
import java.util.TreeSet;

/**
 * The Model on walls of any height: what it tries out over all rows is found here by steps that are kept,
 * each from the ground up, where the class goes from TOP down.
 */
final class WideModel extends Model {
    private Told plannedOf;
    private TreeMap<Integer, Integer> plan;
    private Told boltedOf;
    private List<Integer> bolted;

    @Override
    TreeMap<Integer, Integer> planned() {
        if (plannedOf != w) {
            plan = super.planned();
            plannedOf = w;
        }
        return plan;
    }

    /** Of two rows the one with fewer; of as many the one with the least first, and so on. */
    private static boolean isBefore(List<Integer> row, List<Integer> other) {
        if (other == null || row.size() != other.size()) return other == null || row.size() < other.size();
        for (int i = 0; i < row.size(); i++) {
            if (!row.get(i).equals(other.get(i))) return row.get(i) < other.get(i);
        }
        return false;
    }

    private static List<Integer> with(List<Integer> row, int more) {
        List<Integer> longer = new ArrayList<>(row);
        longer.add(more);
        return longer;
    }

    // ---- the rope.

    @Override
    List<Integer> pitchRow() {
        List<List<Integer>> to = new ArrayList<>();
        to.add(new ArrayList<>());
        for (int s = 1; s <= top(); s++) {
            List<Integer> best = null;
            for (int from = Math.max(0, s - r("rope")); from < s && stance(s); from++) {
                if (to.get(from) == null) continue;
                List<Integer> row = with(to.get(from), s);
                if (isBefore(row, best)) best = row;
            }
            to.add(best);
        }
        return to.get(top()) == null ? List.of() : to.get(top());
    }

    /** Who leads, as a row of 0 and 1, with what it costs ahead of it. */
    private record Led(int cost, String row) {
        boolean isBefore(Led other) {
            return other == null || cost < other.cost || cost == other.cost && row.compareTo(other.row) < 0;
        }
    }

    private Led ledBy(int a, int b, boolean turns) {
        Led[] last = {new Led(0, ""), null};
        int from = 0;
        for (int end : pitchRow()) {
            int hard = 0;
            while (from < end) hard += w.hard[++from];
            Led[] next = new Led[2];
            for (int who = 0; who < 2; who++) {
                int cost = -Math.floorDiv(-hard, who == 0 ? a : b);
                for (int before = 0; before < 2; before++) {
                    if (last[before] == null || turns && before == who && !last[before].row.isEmpty()) continue;
                    Led led = new Led(last[before].cost + cost, last[before].row + who);
                    if (led.isBefore(next[who])) next[who] = led;
                }
            }
            last = next;
        }
        return last[1] == null || last[0] != null && last[0].isBefore(last[1]) ? last[0] : last[1];
    }

    @Override
    int leads(int a, int b, boolean turns, int what) {
        if (a < 1 || a > 9 || b < 1 || b > 9) return BAD;
        int n = pitchRow().size();
        if (what != 0 && (what < 10 || what - 10 >= n)) return BAD;
        if (n == 0) return NONE;
        Led led = ledBy(a, b, turns);
        return what == 0 ? led.cost : led.row.charAt(what - 10) - '0';
    }

    /** Those that one can be at, with what was left by then: the one with the fewest goes on. */
    @Override
    int down(int h) {
        if (h < 0 || h > top()) return BAD;
        TreeMap<Integer, Integer> at = new TreeMap<>();
        at.put(h, 0);
        TreeSet<Integer> gone = new TreeSet<>();
        while (true) {
            int best = -1;
            for (int f : at.keySet()) {
                if (!gone.contains(f) && (best < 0 || at.get(f) < at.get(best))) best = f;
            }
            if (best < 0) return NONE;
            if (best == 0) return at.get(0);
            gone.add(best);
            int left = at.get(best) + (stance(best) ? 1 : 2);
            for (int to = 0; to < best; to++) {
                if (2 * (best - to) <= r("rope") && (to == 0 || stance(to))) at.merge(to, left, Math::min);
            }
        }
    }

    // ---- bolts.

    private boolean strikes(int bolt, int h) {
        int stop = h - 2 * (h - bolt) - r("give") * h / 100;
        if (stop <= 0) return true;
        for (int s = stop; s < h; s++) {
            if (w.ledge[s]) return true;
        }
        return false;
    }

    /** Whether all falls from feet above one bolt and below the next one strike nothing. */
    private boolean areSafe(int bolt, int next) {
        for (int h = bolt + 1; h < next; h++) {
            if (strikes(bolt, h)) return false;
        }
        return true;
    }

    @Override
    List<Integer> boltRow() {
        if (boltedOf != w) {
            bolted = top() <= r("low") ? List.of() : leastBolts();
            boltedOf = w;
        }
        return bolted;
    }

    /** By the highest bolt, from below: the best row of bolts up to it. */
    private List<Integer> leastBolts() {
        List<List<Integer>> upTo = new ArrayList<>();
        upTo.add(null);
        List<Integer> best = null;
        for (int b = 1; b <= top(); b++) {
            List<Integer> row = null;
            if (b <= r("low") || b == r("low") + 1 && !strikes(b, b)) row = List.of(b);
            for (int below = 1; below < b && !strikes(b, b); below++) {
                if (upTo.get(below) == null || !areSafe(below, b)) continue;
                List<Integer> higher = with(upTo.get(below), b);
                if (isBefore(higher, row)) row = higher;
            }
            upTo.add(row);
            if (row != null && areSafe(b, top() + 1) && isBefore(row, best)) best = row;
        }
        if (best != null && !boltsDo(best)) throw new IllegalStateException("these bolts do not: " + best);
        return best;
    }
}
