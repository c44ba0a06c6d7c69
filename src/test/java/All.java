import java.util.ArrayList;
import java.util.List;

/** All that can be asked of an object, some of it by calls that change it: so it is at an end behind this. */
final class All {
    private All() {
    }

    static List<String> of(TwoOnWall x) {
        List<String> all = new ArrayList<>();
        hand(x, all);
        all.add("fault() " + x.fault());
        for (int i = 1; i < 9; i++) all.add("count(" + i + ") " + x.count(i));
        for (int i = 0; i < 5; i++) all.add("rule(" + i + ") " + x.rule(i));
        for (int i = 7; i < 9; i++) all.add("rule(" + i + ") " + x.rule(i));
        for (int h = 1; h <= x.rule(0); h++) {
            for (int i = 0; i < 5; i++) all.add("foot(" + h + ", " + i + ") " + x.foot(h, i));
        }
        all.add("plan(0) " + x.plan(0));
        all.add("best(0) " + x.best(0));
        all.add("pitches(0) " + x.pitches(0));
        all.add("bolts(0) " + x.bolts(0));
        all.add("torn() " + x.torn());
        for (int i = 0; i < 2; i++) {
            all.add("back(" + i + ") " + x.back(i));
            hand(x, all);
        }
        sheets(x, all);
        all.add("text() " + x.text());
        all.add("fault() " + x.fault());
        for (int i = 0; i < 9; i++) all.add("rule(" + i + ") " + x.rule(i));
        return all;
    }

    /** What an IMAGE keeps. */
    private static void hand(TwoOnWall x, List<String> all) {
        int n = x.count(0);
        all.add("count(0) " + n);
        for (int k = 0; k < n; k++) {
            for (int i : new int[] {0, 1, 2, 4}) all.add("piece(" + k + ", " + i + ") " + x.piece(k, i));
        }
        for (int i = 11; i <= 20; i++) all.add("rule(" + i + ") " + x.rule(i));
        all.add("rule(5) " + x.rule(5));
        all.add("rule(6) " + x.rule(6));
        for (int i = 0; i < 4; i++) all.add("eye(" + i / 2 + ", " + i % 2 + ") " + x.eye(i / 2, i % 2));
        all.add("count(5) " + x.count(5));
    }

    /** The lane of a SHEET, how many CELLS it has, and what comes of the first ones. */
    private static void sheets(TwoOnWall x, List<String> all) {
        x.strip();
        for (int k = 0; k < 4; k++) {
            for (int lane = 0; lane < 3; lane++) {
                all.add("read(" + k + ", " + lane + ", 0, 1) " + x.read(k, lane, 0, 1) + " " + x.torn() + " " + x.piece(0, 0) + " " + x.piece(0, 1));
                x.strip();
            }
            int n = 0;
            while (n < 41 && x.lay(k, n, 0) == 1) n++;
            all.add("CELLS of " + k + ": " + n);
        }
    }
}
