import java.lang.management.ManagementFactory;
import java.util.Arrays;
import java.util.Random;

/**
 * Calls with any numbers at all: none throws, none makes an object, and what is refused changes nothing.
 * Fixed seeds: the same calls each time.
 */
public final class HardCallsTest {
    private static final Check c = new Check("HardCallsTest");
    private static final int[] ODD = {Integer.MIN_VALUE, Integer.MIN_VALUE + 1, -41, -21, -2, -1, 0, 1, 2, 3, 5, 9, 10, 11, 12,
        19, 20, 21, 39, 40, 41, 49, 50, 63, 64, 400, 1 << 20, Integer.MAX_VALUE - 1, Integer.MAX_VALUE};
    private static final String[] WALLS = {
        "top 40;rope 9;low 0;rack 1 5;rack 2 5;rack 10 5;at 1 9 crack 1 side 0;at 5 9 crack 2 side 9;at 9 9 crack 10 ledge;"
            + "at 13 9 crack 1 rest;at 17 9 crack 2 ledge rest side 0;at 21 9 crack 10;at 25 0 crack 1 rest;at 29 9 crack 2;"
            + "at 33 9 crack 10 rest;at 37 9 crack 1 side 9;at 40 9 crack 2;strength 999;holds 60;give 50;",
        "top 1;at 1 0 crack 1;rack 1 1;",
        "top 40;give 0;holds 60;low 9;rack 5 5;rack 6 5;rope 60;at 2 1 crack 5;at 4 1 crack 5;at 6 1 crack 6;at 8 1 crack 6;"
            + "at 10 1 crack 5;at 12 1 crack 6;at 14 1 crack 5;at 16 1 crack 5;at 18 1 crack 6;at 20 1 crack 6;at 30 1 crack 6;",
        "strength 1;", "low 1;x"};

    public static void main(String[] args) {
        for (int seed = 0; seed < 300; seed++) run(new Random(seed));
        makesNothing();
        c.end();
    }

    private static int any(Random r) {
        int kind = r.nextInt(10);
        if (kind < 3) return r.nextInt(13);
        if (kind < 6) return r.nextInt(43) - 1;
        return kind == 6 ? r.nextInt() : ODD[r.nextInt(ODD.length)];
    }

    /** One call, with any numbers: what it answered. */
    private static long call(TwoOnWall x, int method, int[] a, boolean is) {
        switch (method) {
            case 0: return x.feed((long) a[0] << 32 | a[1]);
            case 1: return x.end(a[0]);
            case 2: return x.text();
            case 3: return x.fault();
            case 4: return x.rule(a[0]);
            case 5: return x.foot(a[0], a[1]);
            case 6: return x.put(a[0], a[1]);
            case 7: return x.take(a[0]);
            case 8: return x.sling(a[0], is);
            case 9: return x.piece(a[0], a[1]);
            case 10: return x.strip();
            case 11: return x.fall(a[0], a[1], a[2]);
            case 12: return x.harm(a[0], a[1], a[2]);
            case 13: return x.mean(a[0], a[1]);
            case 14: return x.risk(a[0]);
            case 15: return x.needless();
            case 16: return x.plan(a[0]);
            case 17: return x.keep(a[0], a[1]);
            case 18: return x.best(a[0]);
            case 19: return x.adopt();
            case 20: return x.drag(a[0]);
            case 21: return x.slings(a[0], a[1]);
            case 22: return x.pitches(a[0]);
            case 23: return x.leads(a[0], a[1], is, a[2]);
            case 24: return x.down(a[0]);
            case 25: return x.tried(a[0], is);
            case 26: return x.eye(a[0], a[1]);
            case 27: return x.learn();
            case 28: return x.story(a[0], a[1]);
            case 29: return x.odds(a[0], a[1], a[2], a[3]);
            case 30: return x.bolts(a[0]);
            case 31: return x.image(a[0]);
            case 32: return x.back(a[0]);
            case 33: return x.sheet(a[0], a[1], a[2]);
            case 34: return x.lay(a[0], a[1], a[2]);
            case 35: return x.read(a[0], a[1], a[2], a[3]);
            case 36: return x.torn();
            default: return x.count(a[0]);
        }
    }

    /** All that can be asked of what is held inside. */
    private static long[] state(TwoOnWall x) {
        long[] s = new long[600];
        int n = 0;
        for (int i = 0; i <= 20; i++) s[n++] = x.rule(i);
        for (int h = 1; h <= 40; h++) {
            for (int i = 0; i < 6; i++) s[n++] = x.foot(h, i);
        }
        for (int k = 0; k < 10; k++) {
            for (int i = 0; i < 7; i++) s[n++] = x.piece(k, i);
        }
        for (int i = 0; i < 9; i++) s[n++] = x.count(i);
        for (int i = 0; i < 4; i++) s[n++] = x.eye(i / 2, i % 2);
        for (int i = 0; i < 2; i++) s[n++] = x.best(i);
        for (int i = 0; i < 5; i++) s[n++] = x.risk(i);
        s[n++] = x.fault();
        s[n++] = x.torn();
        s[n++] = x.plan(0);
        s[n++] = x.bolts(0);
        s[n++] = x.pitches(0);
        return s;
    }

    private static void run(Random r) {
        TwoOnWall x = new TwoOnWall();
        Check.type(x, WALLS[r.nextInt(WALLS.length)]);
        x.text();
        int[] a = new int[4];
        for (int i = 0; i < 400; i++) {
            for (int j = 0; j < 4; j++) a[j] = any(r);
            int method = r.nextInt(10) < 3 ? 6 : r.nextInt(38);
            // A text is rarely told, so that the pieces stay; it changes THE TAPE in any case.
            if (method == 2 && r.nextInt(8) > 0) continue;
            boolean is = r.nextBoolean();
            long[] before = state(x);
            long answer;
            try {
                answer = call(x, method, a, is);
            } catch (RuntimeException thrown) {
                c.due("method " + method + " of " + Arrays.toString(a) + " threw " + thrown, 1, 0);
                return;
            }
            boolean refused = answer < 0 && method != 2;
            if (refused && !Arrays.equals(before, state(x))) {
                c.due("method " + method + " of " + Arrays.toString(a) + " refused, and changed", 1, 0);
            }
            c.due("method", 0, 0);
        }
    }

    /** A run of all methods again and again: behind the constructor nothing is made. */
    private static void makesNothing() {
        com.sun.management.ThreadMXBean bean = (com.sun.management.ThreadMXBean) ManagementFactory.getThreadMXBean();
        Random r = new Random(7);
        TwoOnWall x = Check.wall(WALLS[0]);
        int[] a = new int[4];
        for (int round = 0; round < 3; round++) {
            long before = bean.getThreadAllocatedBytes(Thread.currentThread().getId());
            for (int i = 0; i < 512; i++) {
                for (int j = 0; j < 4; j++) a[j] = any(r);
                call(x, i % 38, a, i % 3 == 0);
            }
            long made = bean.getThreadAllocatedBytes(Thread.currentThread().getId()) - before;
            // The first rounds load classes; asking the bean itself makes a little.
            if (round == 2) c.due("bytes made by 512 calls are fewer than 4096 (" + made + ")", made < 4096 ? 1 : 0, 1);
        }
    }
}
