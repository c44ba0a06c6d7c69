/** Boundary cases of falls: promises 13 to 17. */
public final class EdgesFallsTest extends Edges {
    private static final int[] NO_WHATS = {-1, 2, 3, MIN, MAX};
    /** No give, what holds nearly all, a CRACK at 4. */
    private static final String ONE = "top 10;give 0;low 0;holds 60;rack 1 5;at 4 1 crack 1";
    /** Ten CRACKS and PIECES, at 11 to 20 of TOP 20; each is good by 1 of 20. */
    private static final String TEN = "fits 1 1;holds 60;give 0;rack 1 5;rack 2 5;at 11 1 crack 1;at 12 1 crack 1;"
        + "at 13 1 crack 1;at 14 1 crack 1;at 15 1 crack 1;at 16 1 crack 2;at 17 1 crack 2;at 18 1 crack 2;at 19 1 crack 2;"
        + "at 20 1 crack 2;";

    public static void main(String[] args) {
        new EdgesFallsTest().run(13, 17);
    }

    /** A wall with a PIECE that FITS in each CRACK, as far as THE RACK has them. */
    private static TwoOnWall full(String text) {
        TwoOnWall x = Check.wall(text);
        for (int h = 1; h <= x.rule(0); h++) {
            if (x.foot(h, 1) > 0) x.put(h, x.foot(h, 1));
        }
        return x;
    }

    /** All six answers of a FALL. */
    private void falls(TwoOnWall x, int h, int good, int... due) {
        for (int i = 0; i < 6; i++) due("fall(" + h + ", " + good + ", " + i + ")", x.fall(h, good, i), due[i]);
    }

    private int[] noFeet(int top) {
        return new int[] {0, -1, top + 1, 41, MIN, MAX};
    }

    // ---- promise 13: fall.

    @Edge(of = 13, words = "A FALL from a FOOT (1 to TOP)")
    void p13FeetOneToTop() {
        TwoOnWall x = new TwoOnWall();
        due("fall(1, 0, 5)", x.fall(1, 0, 5), 1);
        due("fall(20, 0, 5)", x.fall(20, 0, 5), 20);
        for (int h : noFeet(20)) due("fall(" + h + ", 0, 5)", x.fall(h, 0, 5), BAD);
        x = Check.wall("top 40;");
        due("fall(40, 0, 5)", x.fall(40, 0, 5), 40);
        x = Check.wall("top 1;");
        due("fall(1, 0, 5)", x.fall(1, 0, 5), 1);
        for (int h : noFeet(1)) due("fall(" + h + ", 0, 5)", x.fall(h, 0, 5), BAD);
    }

    @Edge(of = 13, words = "PIECES being good (bits)")
    void p13BitsOfPiecesAlone() {
        TwoOnWall x = new TwoOnWall();
        due("fall(1, 0, 0) of none", x.fall(1, 0, 0), 0);
        int[] more = {1, 1024, -1, MIN, MAX};
        for (int good : more) due("fall(1, " + good + ", 0) of none", x.fall(1, good, 0), BAD);
        x = full(TEN);
        due("fall(20, 1023, 1)", x.fall(20, 1023, 1), 9);
        due("fall(20, 512, 1)", x.fall(20, 512, 1), 9);
        due("fall(20, 1, 1)", x.fall(20, 1, 1), 0);
        due("fall(20, 0, 1)", x.fall(20, 0, 1), NONE);
        int[] beyond = {1024, 2047, 1025, -1, -1024, 1 << 30, MIN, MIN + 1, MAX};
        for (int good : beyond) due("fall(20, " + good + ", 0)", x.fall(20, good, 0), BAD);
        x.take(11);
        due("fall(20, 511, 1)", x.fall(20, 511, 1), 8);
        due("fall(20, 512, 1), one being out", x.fall(20, 512, 1), BAD);
    }

    @Edge(of = 13, words = "4 what is STRUCK (NONE: nothing), 5 HARM. BAD.")
    void p13WhatIsAskedAndWhatNot() {
        TwoOnWall x = full(ONE + ";");
        falls(x, 6, 1, 2, 0, 8, 0, NONE, 0);
        falls(x, 6, 0, 0, NONE, 0, 1, 0, 6);
        int[] bad = {-1, 6, MIN, MAX};
        for (int what : bad) due("fall(6, 1, " + what + ")", x.fall(6, 1, what), BAD);
    }

    @Edge(of = 13, words = "onto the highest PIECE at h or below")
    void p13ThePieceAtTheFootItself() {
        TwoOnWall x = full(ONE + ";at 6 1 crack 1;");
        falls(x, 3, 3, 0, NONE, 0, 0, 0, 3);
        falls(x, 4, 3, 4, 0, 2, 0, NONE, 0);
        falls(x, 5, 3, 3, 0, 6, 0, NONE, 0);
        falls(x, 6, 3, 6, 1, 2, 0, NONE, 0);
        falls(x, 7, 3, 5, 1, 4, 0, NONE, 0);
        // One above is not looked at: it POPS not, though it is not good.
        falls(x, 3, 0, 0, NONE, 0, 0, 0, 3);
        falls(x, 4, 1, 4, 0, 2, 0, NONE, 0);
        falls(x, 5, 0, 0, NONE, 0, 1, 0, 5);
        x = full("top 2;give 0;holds 60;rack 1 1;at 1 1 crack 1;");
        falls(x, 1, 1, 1, 0, 2, 0, NONE, 0);
        falls(x, 2, 1, 0, 0, 12, 0, 0, 2);
    }

    @Edge(of = 13, words = "(give of 100 of h, divided down) more")
    void p13GiveIsDividedDown() {
        int[] gives = {0, 1, 3, 10, 33, 49, 50};
        for (int give : gives) {
            TwoOnWall x = full("top 40;give " + give + ";holds 60;rack 1 1;at 26 1 crack 1;");
            for (int h = 26; h <= 40; h++) {
                int more = 0;
                while ((more + 1) * 100 <= give * h) more++;
                due("fall(" + h + ", 1, 0) of give " + give, x.fall(h, 1, 0), Math.max(0, h - 2 * (h - 26) - more));
            }
        }
        TwoOnWall x = full("give 10;holds 60;rack 1 4;at 9 1 crack 1;at 10 1 crack 1;at 19 1 crack 1;at 20 1 crack 1;");
        int[] feet = {9, 10, 19, 20};
        int[] stops = {9, 9, 18, 18};
        for (int i = 0; i < 4; i++) due("fall(" + feet[i] + ", 15, 0)", x.fall(feet[i], 15, 0), stops[i]);
    }

    @Edge(of = 13, words = "PULL is 2 more than (10 times DROP by h, divided down)")
    void p13PullIsDividedDown() {
        TwoOnWall x = full(ONE + ";");
        int[] pulls = {2, 6, 8, 10, 12, 13, 14};
        for (int h = 4; h <= 10; h++) due("fall(" + h + ", 1, 2)", x.fall(h, 1, 2), pulls[h - 4]);
        x = full("top 40;give 50;holds 60;rack 1 1;at 1 1 crack 1;");
        due("of DROP 98 from 40", x.fall(40, 1, 2), 26);
        due("of DROP 0 from 1", x.fall(1, 1, 2), 2);
        due("of DROP 3 from 2", x.fall(2, 1, 2), 17);
    }

    @Edge(of = 13, words = "It HOLDS a PULL no greater than its size and holds, summed.")
    void p13HoldsJustAsMuch() {
        String rest = ";rack 1 1;rack 2 1;at 4 1 crack 1;";
        TwoOnWall x = full("top 10;give 0;holds 9" + rest);
        falls(x, 7, 1, 1, 0, 10, 0, NONE, 0);
        falls(x, 8, 1, 0, NONE, 0, 1, 0, 8);
        x = full("top 10;give 0;holds 8" + rest);
        falls(x, 7, 1, 0, NONE, 0, 1, 0, 7);
        x.strip();
        x.put(4, 2);
        falls(x, 7, 1, 1, 0, 10, 0, NONE, 0);
        // holds 0, the least: a PULL of 2 is too much for size 1, not for size 2.
        x = full("top 10;give 0;holds 0" + rest);
        falls(x, 4, 1, 0, NONE, 0, 1, 0, 4);
        x.strip();
        x.put(4, 2);
        falls(x, 4, 1, 4, 0, 2, 0, NONE, 0);
    }

    @Edge(of = 13, words = "else it POPS, and the next one below it is looked at likewise (from h)")
    void p13TheNextOneBelow() {
        TwoOnWall x = full(ONE + ";at 6 1 crack 1;");
        falls(x, 8, 3, 4, 1, 7, 0, NONE, 0);
        falls(x, 8, 2, 4, 1, 7, 0, NONE, 0);
        falls(x, 8, 1, 0, 0, 12, 2, 0, 8);
        falls(x, 7, 1, 1, 0, 10, 2, NONE, 0);
        falls(x, 8, 0, 0, NONE, 0, 3, 0, 8);
        // Good ones that can not hold POP, too.
        x = full("top 10;give 0;holds 3;rack 1 2;at 4 1 crack 1;at 6 1 crack 1;");
        falls(x, 8, 3, 0, NONE, 0, 3, 0, 8);
        falls(x, 7, 3, 5, 1, 4, 0, NONE, 0);
        // Just the upper one is too small.
        x = full("top 10;give 0;holds 3;rack 1 1;rack 9 1;at 4 1 crack 9;at 6 1 crack 1;");
        falls(x, 8, 3, 0, 0, 12, 2, 0, 8);
    }

    @Edge(of = 13, words = "Without any: it is stopped by the ground (0).")
    void p13WithoutAny() {
        falls(new TwoOnWall(), 1, 0, 0, NONE, 0, 0, 0, 1);
        falls(new TwoOnWall(), 20, 0, 0, NONE, 0, 0, 0, 20);
        TwoOnWall x = full(TEN);
        falls(x, 20, 0, 0, NONE, 0, 1023, 0, 20);
        falls(x, 10, 1023, 0, NONE, 0, 0, 0, 10);
        falls(x, 20, 1, 2, 0, 11, 1022, NONE, 0);
    }

    @Edge(of = 13, words = "0 where it is stopped (0 at least)")
    void p13StoppedAtZeroAtLeast() {
        TwoOnWall x = full(ONE + ";");
        int[] stops = {4, 3, 2, 1, 0, 0, 0};
        for (int h = 4; h <= 10; h++) {
            due("fall(" + h + ", 1, 0)", x.fall(h, 1, 0), stops[h - 4]);
            due("fall(" + h + ", 1, 1)", x.fall(h, 1, 1), 0);
        }
    }

    @Edge(of = 13, words = "STRUCK: the highest of LEDGES below h and no lower than where it is stopped, and the ground, if it is stopped at 0 or below.")
    void p13StruckByOneLedgeAndTheGround() {
        for (int ledge = 1; ledge <= 10; ledge++) {
            TwoOnWall x = full(ledge == 4 ? ONE + " ledge;" : ONE + ";at " + ledge + " 1 ledge;");
            for (int h = 4; h <= 10; h++) {
                int stop = 8 - h;
                int struck = ledge < h && ledge >= stop ? ledge : stop <= 0 ? 0 : NONE;
                due("fall(" + h + ", 1, 4) above a LEDGE at " + ledge, x.fall(h, 1, 4), struck);
                due("fall(" + h + ", 1, 5) above a LEDGE at " + ledge, x.fall(h, 1, 5), struck == NONE ? 0 : h - struck);
            }
            for (int h = 1; h <= 3; h++) due("fall(" + h + ", 1, 4)", x.fall(h, 1, 4), ledge < h ? ledge : 0);
        }
    }

    @Edge(of = 13, words = "the highest of LEDGES below h and no lower than where it is stopped")
    void p13StruckIsTheHighest() {
        TwoOnWall x = full(ONE + ";at 1 1 ledge;at 2 1 ledge;at 3 1 ledge;at 6 1 ledge;");
        falls(x, 5, 1, 3, 0, 6, 0, 3, 2);
        falls(x, 6, 1, 2, 0, 8, 0, 3, 3);
        falls(x, 7, 1, 1, 0, 10, 0, 6, 1);
        falls(x, 10, 1, 0, 0, 14, 0, 6, 4);
        falls(x, 4, 0, 0, NONE, 0, 1, 3, 1);
        falls(x, 1, 0, 0, NONE, 0, 0, 0, 1);
        falls(x, 2, 0, 0, NONE, 0, 0, 1, 1);
    }

    @Edge(of = 13, words = "HARM: h less what is STRUCK; 0: nothing is.")
    void p13HarmOfNothingAndOfTheWholeWay() {
        TwoOnWall x = Check.wall("top 40;");
        for (int h = 1; h <= 40; h++) due("fall(" + h + ", 0, 5) to the ground", x.fall(h, 0, 5), h);
        x = full("top 40;give 0;holds 60;rack 1 1;at 21 1 crack 1;at 39 1 ledge;");
        due("fall(21, 1, 5)", x.fall(21, 1, 5), 0);
        due("fall(39, 1, 5): the LEDGE is where one falls from", x.fall(39, 1, 5), 0);
        due("fall(40, 1, 5): it is 1 below", x.fall(40, 1, 5), 1);
        due("fall(39, 0, 5)", x.fall(39, 0, 5), 39);
        due("fall(40, 0, 5)", x.fall(40, 0, 5), 1);
    }

    // ---- promise 14: harm.

    @Edge(of = 14, words = "HARM of a FALL from a FOOT is d (1 to 40) or more: 0, 1. BAD.")
    void p14WhatIsAskedAndWhatNot() {
        TwoOnWall x = Check.wall("top 40;");
        int[] ds = {0, -1, 41, MIN, MAX};
        for (int d : ds) due("harm(40, " + d + ", 0)", x.harm(40, d, 0), BAD);
        for (int h : noFeet(40)) due("harm(" + h + ", 1, 0)", x.harm(h, 1, 0), BAD);
        for (int what : NO_WHATS) due("harm(1, 1, " + what + ")", x.harm(1, 1, what), BAD);
        part("harm(40, 40)", x.harm(40, 40, 0), x.harm(40, 40, 1), 1, 1);
        part("harm(1, 1)", x.harm(1, 1, 0), x.harm(1, 1, 1), 1, 1);
        part("harm(1, 40)", x.harm(1, 40, 0), x.harm(1, 40, 1), 0, 1);
    }

    @Edge(of = 14, words = "HARM of a FALL from a FOOT is d (1 to 40) or more")
    void p14JustAsMuchOrMore() {
        TwoOnWall x = full(ONE + ";");
        for (int d = 1; d <= 40; d++) {
            part("harm(3, " + d + ")", x.harm(3, d, 0), x.harm(3, d, 1), d <= 3 ? 1 : 0, 1);
            part("harm(4, " + d + ")", x.harm(4, d, 0), x.harm(4, d, 1), d <= 4 ? 1 : 0, d <= 4 ? 10 : 1);
            part("harm(7, " + d + ")", x.harm(7, d, 0), x.harm(7, d, 1), d <= 7 ? 1 : 0, d <= 7 ? 10 : 1);
            part("harm(8, " + d + ")", x.harm(8, d, 0), x.harm(8, d, 1), d <= 8 ? 1 : 0, 1);
        }
    }

    @Edge(of = 14, words = "Fractions are in lowest terms, told as 0 the numerator, 1 the denominator, which is above 0 (0 is 0 by 1).")
    void p14LowestTerms() {
        for (int chance = 0; chance <= 20; chance++) {
            TwoOnWall x = full(ONE + ";fits " + chance + " 0;");
            int by = 20;
            while ((20 - chance) % by != 0 || 20 % by != 0) by--;
            part("harm(4, 1) of " + chance, x.harm(4, 1, 0), x.harm(4, 1, 1), (20 - chance) / by, 20 / by);
        }
    }

    @Edge(of = 14, words = "The chance (PIECES by themselves)")
    void p14NoPieceAndTenOfThem() {
        part("harm(20, 20) of none", new TwoOnWall().harm(20, 20, 0), new TwoOnWall().harm(20, 20, 1), 1, 1);
        TwoOnWall x = full(TEN);
        part("harm(20, 20): 19 to the tenth", x.harm(20, 20, 0), x.harm(20, 20, 1), 6131066257801L, 10240000000000L);
        part("harm(11, 11)", x.harm(11, 11, 0), x.harm(11, 11, 1), 19, 20);
        part("harm(10, 10): all are above", x.harm(10, 10, 0), x.harm(10, 10, 1), 1, 1);
        x = full(TEN.replace("fits 1 1", "fits 0 0"));
        part("harm(20, 20), none is ever good", x.harm(20, 20, 0), x.harm(20, 20, 1), 1, 1);
        x = full(TEN.replace("fits 1 1", "fits 20 0"));
        part("harm(20, 1), all are good for certain", x.harm(20, 1, 0), x.harm(20, 1, 1), 0, 1);
    }

    @Edge(of = 14, words = "if it is good and HOLDS")
    void p14OneThatCanNotHold() {
        String text = "top 10;give 0;fits 13 0;rack 1 1;at 4 1 crack 1;holds ";
        TwoOnWall x = full(text + "9;");
        part("harm(7, 7), the PULL being all that it HOLDS", x.harm(7, 7, 0), x.harm(7, 7, 1), 7, 20);
        x = full(text + "8;");
        part("harm(7, 7), the PULL being 1 more", x.harm(7, 7, 0), x.harm(7, 7, 1), 1, 1);
    }

    // ---- promise 15: mean.

    @Edge(of = 15, words = "The mean of HARM of a FALL from a FOOT: 0, 1. BAD.")
    void p15WhatIsAskedAndWhatNot() {
        TwoOnWall x = Check.wall("top 40;");
        for (int h : noFeet(40)) due("mean(" + h + ", 0)", x.mean(h, 0), BAD);
        for (int what : NO_WHATS) due("mean(1, " + what + ")", x.mean(1, what), BAD);
        part("mean(1)", x.mean(1, 0), x.mean(1, 1), 1, 1);
        part("mean(40)", x.mean(40, 0), x.mean(40, 1), 40, 1);
    }

    @Edge(of = 15, words = "Fractions are in lowest terms, told as 0 the numerator, 1 the denominator, which is above 0 (0 is 0 by 1).")
    void p15LowestTerms() {
        for (int chance = 0; chance <= 20; chance++) {
            TwoOnWall x = full(ONE + ";fits " + chance + " 0;");
            int sum = 4 * (20 - chance);
            int by = 20;
            while (sum % by != 0 || 20 % by != 0) by--;
            part("mean(4) of " + chance, x.mean(4, 0), x.mean(4, 1), sum / by, 20 / by);
        }
    }

    @Edge(of = 15, words = "PIECES (10 at most) are in CRACKS")
    void p15NoPieceAndTenOfThem() {
        part("mean(20) of none", new TwoOnWall().mean(20, 0), new TwoOnWall().mean(20, 1), 20, 1);
        TwoOnWall x = full(TEN);
        part("mean(20): 20 times 19 to the tenth", x.mean(20, 0), x.mean(20, 1), 6131066257801L, 512000000000L);
        x = full(TEN.replace("fits 1 1", "fits 20 0"));
        part("mean(20) of what never harms", x.mean(20, 0), x.mean(20, 1), 0, 1);
    }

    // ---- promise 16: risk.

    @Edge(of = 16, words = "RISK (what 0), EFFORT at TOP (1), the first FOOT where it is TOO MUCH (2; NONE), the FOOT with the greatest HARM, all being good, of several the least (3; NONE: no HARM anywhere), that (4). BAD.")
    void p16WhatIsAskedAndWhatNot() {
        TwoOnWall x = new TwoOnWall();
        int[] due = {207, 20, NONE, 20, 20};
        for (int i = 0; i < 5; i++) due("risk(" + i + ")", x.risk(i), due[i]);
        int[] bad = {-1, 5, MIN, MAX};
        for (int what : bad) due("risk(" + what + ")", x.risk(what), BAD);
    }

    @Edge(of = 16, words = "FEET up to low are left out.")
    void p16LowIsLeftOut() {
        for (int low = 0; low <= 9; low++) {
            int sum = 0;
            for (int h = low + 1; h <= 10; h++) sum += h;
            due("risk(0) of low " + low, Check.wall("top 10;low " + low + ";").risk(0), sum);
        }
        due("risk(0) of TOP 9, low 9", Check.wall("top 9;low 9;").risk(0), 0);
        due("risk(0) of TOP 1, low 1", Check.wall("top 1;low 1;").risk(0), 0);
        due("risk(0) of TOP 1, low 0", Check.wall("top 1;low 0;").risk(0), 1);
        due("risk(3) of TOP 9, low 9", Check.wall("top 9;low 9;").risk(3), 9);
        due("risk(4) of TOP 9, low 9", Check.wall("top 9;low 9;").risk(4), 9);
    }

    @Edge(of = 16, words = "over FEET 1 to TOP HARD times HARM of a FALL from there, all PIECES (below it and there) being good")
    void p16TheLeastAndTheGreatestRisk() {
        StringBuilder hardest = new StringBuilder("top 40;low 0;");
        StringBuilder easy = new StringBuilder(hardest);
        for (int h = 1; h <= 40; h++) {
            hardest.append("at").append(h).append(" 9;");
            easy.append("at").append(h).append(" 0;");
        }
        due("risk(0) of HARD 9", Check.wall(hardest.toString()).risk(0), 9 * 820);
        due("risk(1) of HARD 9", Check.wall(hardest.toString()).risk(1), 360);
        due("risk(0) of HARD 0", Check.wall(easy.toString()).risk(0), 0);
        due("risk(1) of HARD 0", Check.wall(easy.toString()).risk(1), 0);
        due("risk(4) of HARD 0", Check.wall(easy.toString()).risk(4), 40);
        // With a PIECE at 4: from 4 to 7 nothing, else all the way down.
        due("risk(0) with a PIECE", full(ONE + ";").risk(0), 1 + 2 + 3 + 8 + 9 + 10);
    }

    @Edge(of = 16, words = "It is TOO MUCH, if EFFORT is anywhere above strength")
    void p16AsMuchAsStrengthIsNotTooMuch() {
        for (int strength = 1; strength <= 12; strength++) {
            TwoOnWall x = Check.wall("top 10;strength " + strength + ";");
            due("risk(2) of strength " + strength, x.risk(2), strength >= 10 ? NONE : strength + 1);
            due("risk(1) of strength " + strength, x.risk(1), 10);
        }
        due("risk(2) of HARD 2", Check.wall("top 1;strength 1;at 1 2;").risk(2), 1);
        due("risk(2) of HARD 1", Check.wall("top 1;strength 1;").risk(2), NONE);
        StringBuilder most = new StringBuilder("top40;rack1 5;rack2 5;place99;strength999;");
        for (int h = 1; h <= 40; h++) most.append("at").append(h).append(" 9").append(h > 35 ? "crack1;" : h > 30 ? "crack2;" : ";");
        TwoOnWall x = full(most.toString());
        due("risk(1) of all that may be", x.risk(1), 360 + 990);
        due("risk(2) of all that may be", x.risk(2), 37);
    }

    @Edge(of = 16, words = "place for each PIECE; but at a REST all EFFORT so far is 0 again")
    void p16EffortOfPiecesAndRests() {
        TwoOnWall x = full("top 4;place 7;rack 1 2;at 2 3 crack 1;at 4 1 crack 1;");
        due("risk(1), a PIECE at TOP counts", x.risk(1), 1 + 3 + 7 + 1 + 1 + 7);
        x = full("top 4;place 7;rack 1 2;at 2 3 crack 1;at 3 1 rest;at 4 2 crack 1;");
        due("risk(1) behind a REST just below TOP", x.risk(1), 9);
        x = full("top 4;place 7;rack 1 2;at 2 3 crack 1;at 4 2 crack 1 rest;");
        due("risk(1) of a REST at TOP", x.risk(1), 0);
        x = Check.wall("top 4;place 0;at 1 9 rest;at 2 0;at 3 0;at 4 0;");
        due("risk(1) of nothing behind a REST", x.risk(1), 0);
    }

    @Edge(of = 16, words = "(in a FOOT first HARD, then the PIECE, then the REST)")
    void p16HardThenThePieceThenTheRest() {
        String text = "top 3;place 5;rack 1 1;at 1 2;at 2 3 crack 1 rest;at 3 9;strength ";
        due("10 at 2", full(text + "10;").risk(2), NONE);
        due("10 at 2, above strength", full(text + "9;").risk(2), 2);
        due("5 at 2 without the PIECE, then 9 at 3", Check.wall(text + "9;").risk(2), NONE);
        due("9 at 3 behind the REST", Check.wall(text + "8;").risk(2), 3);
        due("5 at 2", Check.wall(text + "4;").risk(2), 2);
        due("2 at 1", Check.wall(text + "1;").risk(2), 1);
    }

    @Edge(of = 16, words = "the FOOT with the greatest HARM, all being good, of several the least (3; NONE: no HARM anywhere), that (4)")
    void p16TheGreatestHarm() {
        TwoOnWall x = Check.wall("top 1;give 0;rack 1 1;at 1 1 crack 1;");
        due("risk(3)", x.risk(3), 1);
        due("risk(4)", x.risk(4), 1);
        x.put(1, 1);
        due("risk(3), no HARM anywhere", x.risk(3), NONE);
        due("risk(4), no HARM anywhere", x.risk(4), 0);
        x = Check.wall("top 8;at 2 1 ledge;at 4 1 ledge;at 6 1 ledge;");
        due("risk(3): 2 from 2, 4, 6 and 8", x.risk(3), 2);
        due("risk(4)", x.risk(4), 2);
        x = Check.wall("top 9;at 2 1 ledge;at 4 1 ledge;at 6 1 ledge;");
        due("risk(3): 3 from 9", x.risk(3), 9);
        due("risk(4)", x.risk(4), 3);
    }

    // ---- promise 17: needless.

    @Edge(of = 17, words = "PIECES that are needless (bits): without one of them RISK is not more.")
    void p17NoneOneAndTen() {
        due("needless() of none", new TwoOnWall().needless(), 0);
        due("needless() of one that is not", full(ONE + ";").needless(), 0);
        due("needless() of one, up to low", full("top 4;low 4;give 0;rack 1 1;at 4 1 crack 1;").needless(), 1);
        StringBuilder ten = new StringBuilder("top 10;give 0;holds 60;rack 1 5;rack 2 5;");
        for (int h = 1; h <= 10; h++) ten.append("at ").append(h).append(" 1 ledge crack ").append(h < 6 ? 1 : 2).append(';');
        due("needless() of ten, each of use", full(ten + "low 0;").needless(), 0);
        due("needless() of ten, one being up to low", full(ten + "low 1;").needless(), 1);
        due("needless() of ten, nine being up to low", full(ten + "low 9;").needless(), 511);
    }

    @Edge(of = 17, words = "without one of them RISK is not more")
    void p17EachByItself() {
        // Either of both does: each by itself is needless.
        TwoOnWall x = full("top 3;low 2;give 0;holds 60;rack 1 2;at 2 1 crack 1;at 3 1 crack 1;");
        due("needless()", x.needless(), 3);
        x.take(3);
        due("needless() of the one that is left", x.needless(), 0);
        // HARD 0: its HARM is no RISK.
        x = full("top 2;low 0;give 0;holds 60;rack 1 2;at 1 1 crack 1;at 2 0 crack 1;");
        due("needless() by HARD 0", x.needless(), 2);
        due("all is as it was", x.count(0), 2);
    }
}
