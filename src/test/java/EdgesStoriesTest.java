/** Boundary cases of what an eye is worth, of stories and of bolts: promises 27 to 32. */
public final class EdgesStoriesTest extends Edges {
    public static void main(String[] args) {
        new EdgesStoriesTest().run(27, 32);
    }

    private static TwoOnWall tries(int fitting, int held, int nearly, int heldNearly) {
        TwoOnWall x = new TwoOnWall();
        for (int i = 0; i < fitting; i++) x.tried(0, i < held);
        for (int i = 0; i < nearly; i++) x.tried(1, i < heldNearly);
        return x;
    }

    // ---- promise 27: tried.

    @Edge(of = 27, words = "A TRY more: seen as FITTING (0) or NEARLY (1), whether it held: how many such were seen. BAD;")
    void p27SeenZeroOrOne() {
        TwoOnWall x = new TwoOnWall();
        due("tried(0, true)", x.tried(0, true), 1);
        due("tried(0, false)", x.tried(0, false), 2);
        due("tried(1, false)", x.tried(1, false), 1);
        due("tried(1, true)", x.tried(1, true), 2);
        due("tried(0, true)", x.tried(0, true), 3);
        int[] bad = {-1, 2, MIN, MAX};
        for (int seen : bad) {
            due("tried(" + seen + ", true)", x.tried(seen, true), BAD);
            due("tried(" + seen + ", false)", x.tried(seen, false), BAD);
        }
        due("count(5)", x.count(5), 5);
    }

    @Edge(of = 27, words = "FULL: 999 in all.")
    void p27FullAtTheThousandth() {
        TwoOnWall x = new TwoOnWall();
        for (int i = 1; i <= 600; i++) due("tried(0, true) no. " + i, x.tried(0, true), i);
        for (int i = 1; i <= 399; i++) due("tried(1, false) no. " + i, x.tried(1, false), i);
        due("count(5)", x.count(5), 999);
        due("tried(0, true)", x.tried(0, true), FULL);
        due("tried(1, true)", x.tried(1, true), FULL);
        due("BAD ahead of FULL", x.tried(2, true), BAD);
        due("count(5)", x.count(5), 999);
        due("eye(0, 0)", x.eye(0, 0), 1);
        due("eye(1, 0)", x.eye(1, 0), 0);
    }

    @Edge(of = 27, words = "what is refused changes nothing (but THE TAPE, as told)")
    void p27RefusedChangesNothing() {
        changesNothing(() -> tries(3, 2, 1, 1), x -> {
            x.tried(2, true);
            x.tried(-1, false);
        });
    }

    // ---- promise 28: eye.

    @Edge(of = 28, words = "AN EYE: held by seen, of FITTING (seen 0) or NEARLY (1): 0, 1. BAD; NONE: none were tried.")
    void p28BadAndNone() {
        TwoOnWall x = new TwoOnWall();
        int[] bad = {-1, 2, MIN, MAX};
        for (int round = 0; round < 2; round++) {
            for (int i : bad) {
                due("eye(" + i + ", 0)", x.eye(i, 0), BAD);
                due("eye(0, " + i + ")", x.eye(0, i), BAD);
                due("eye(1, " + i + ")", x.eye(1, i), BAD);
            }
            for (int i = 0; i < 2; i++) {
                due("eye(0, " + i + ")", x.eye(0, i), round == 0 ? NONE : 1);
                due("eye(1, " + i + ")", x.eye(1, i), NONE);
            }
            x.tried(0, true);
        }
        x = tries(0, 0, 1, 0);
        due("eye(0, 1), only the other one tried", x.eye(0, 1), NONE);
        due("eye(1, 1)", x.eye(1, 1), 1);
    }

    @Edge(of = 28, words = "Fractions are in lowest terms, told as 0 the numerator, 1 the denominator, which is above 0 (0 is 0 by 1).")
    void p28LowestTerms() {
        for (int seen = 1; seen <= 24; seen++) {
            for (int held = 0; held <= seen; held++) {
                int by = seen;
                while (held % by != 0 || seen % by != 0) by--;
                TwoOnWall x = tries(seen, held, seen, seen - held);
                part("eye(0) of " + held + " by " + seen, x.eye(0, 0), x.eye(0, 1), held / by, seen / by);
                part("eye(1)", x.eye(1, 0), x.eye(1, 1), (seen - held) / by, seen / by);
            }
        }
    }

    // ---- promise 29: learn.

    @Edge(of = 29, words = "of 20, to the nearest (a half: up)")
    void p29ToTheNearest() {
        for (int seen = 1; seen <= 41; seen++) {
            for (int held = 0; held <= seen; held++) {
                int due = 0;
                while (due < 20 && (2 * due + 1) * seen <= 40 * held) due++;
                TwoOnWall x = tries(seen, held, 0, 0);
                x.learn();
                due("rule(5) of " + held + " by " + seen, x.rule(5), due);
                due("rule(6)", x.rule(6), 10);
            }
        }
        TwoOnWall x = tries(40, 1, 8, 3);
        due("learn() of a half, and of 7 and a half", x.learn(), 2);
        due("rule(5)", x.rule(5), 1);
        due("rule(6)", x.rule(6), 8);
        x = tries(41, 1, 40, 39);
        x.learn();
        due("rule(5) of less than a half", x.rule(5), 0);
        due("rule(6) of 19 and a half", x.rule(6), 20);
    }

    @Edge(of = 29, words = "those not tried stay: how many became another one")
    void p29HowManyBecameAnother() {
        due("learn() of none", new TwoOnWall().learn(), 0);
        due("learn() of what it was: 18 of 20", tries(10, 9, 0, 0).learn(), 0);
        due("learn() of what they were", tries(20, 18, 2, 1).learn(), 0);
        due("learn() of one", tries(1, 1, 2, 1).learn(), 1);
        due("learn() of the other one", tries(20, 18, 1, 0).learn(), 1);
        TwoOnWall x = tries(1, 1, 1, 0);
        due("learn() of both", x.learn(), 2);
        due("rule(5)", x.rule(5), 20);
        due("rule(6)", x.rule(6), 0);
        due("learn() once more", x.learn(), 0);
        x = tries(0, 0, 1, 1);
        due("learn() of NEARLY alone", x.learn(), 1);
        due("rule(5) stays", x.rule(5), 18);
        due("rule(6)", x.rule(6), 20);
    }

    // ---- promise 30: story.

    /** No give, what holds nearly all, a PIECE at 4 and, of two, one at 6. */
    private static TwoOnWall pieces(String more) {
        TwoOnWall x = Check.wall("top 10;give 0;holds 60;rack 1 5;at 4 1 crack 1;" + more);
        for (int h = 1; h <= 10; h++) {
            if (x.foot(h, 1) > 0) x.put(h, 1);
        }
        return x;
    }

    private static final String ANOTHER = "at 6 1 crack 1;";

    private static long feet(int... feet) {
        long bits = 0;
        for (int h : feet) bits += 1L << h;
        return bits;
    }

    /** Ten PIECES at 11 to 20; each holds from 20, none from 40; what is between is of HARD 0. */
    private static TwoOnWall ten(int chance) {
        StringBuilder b = new StringBuilder("top40;give0;holds10;rack1 5;rack2 5;fits" + chance + " 0;");
        for (int h = 11; h <= 15; h++) b.append("at").append(h).append(" 1crack2;");
        for (int h = 16; h <= 20; h++) b.append("at").append(h).append(" 1crack1;");
        for (int h = 21; h <= 39; h++) b.append("at").append(h).append(" 0;");
        TwoOnWall x = Check.wall(b.toString());
        for (int h = 11; h <= 20; h++) x.put(h, h < 16 ? 2 : 1);
        return x;
    }

    @Edge(of = 30, words = "A STORY: FEET from which it can have been (bits 1 to 40). BAD -1 (a FOOT 0 to TOP, bits of PIECES).")
    void p30WhatIsAskedAndWhatNot() {
        TwoOnWall one = pieces("");
        int[] hungs = {-1, 11, 40, 41, MIN, MAX};
        for (int hung : hungs) due("story(0, " + hung + ")", one.story(0, hung), BAD);
        due("story(0, 10)", one.story(0, 10), 0);
        int[] bits = {2, 3, 1024, -1, MIN, MAX};
        for (int popped : bits) due("story(" + popped + ", 0)", one.story(popped, 0), BAD);
        due("story(1, 0)", one.story(1, 0), feet(4, 5, 6, 7, 8, 9, 10));
        TwoOnWall none = new TwoOnWall();
        due("story(1, 0) of none", none.story(1, 0), BAD);
        due("story(0, 20) of none", none.story(0, 20), 0);
        due("story(0, 21) of none", none.story(0, 21), BAD);
        due("story(1024, 0) of ten", ten(1).story(1024, 0), BAD);
        due("story(2047, 0) of ten", ten(1).story(2047, 0), BAD);
    }

    @Edge(of = 30, words = "(bits 1 to 40)")
    void p30BitsOneToForty() {
        int[] tops = {1, 2, 20, 30, 31, 32, 33, 39, 40};
        for (int top : tops) due("story(0, 0) of TOP " + top, Check.wall("top " + top + ";").story(0, 0), (1L << top + 1) - 2);
        TwoOnWall x = Check.wall("top 40;give 0;rack 1 1;at 40 1 crack 1;");
        x.put(40, 1);
        due("story(0, 40)", x.story(0, 40), 1L << 40);
        due("story(1, 0)", x.story(1, 0), 1L << 40);
        due("story(1023, 0) of ten", ten(1).story(1023, 0), (1L << 41) - (1L << 20));
    }

    @Edge(of = 30, words = "one hangs where it was stopped (at 0 or below: 0)")
    void p30HungAtZeroOrBelow() {
        TwoOnWall x = pieces("");
        long[] due = {feet(1, 2, 3, 8, 9, 10), feet(7), feet(6), feet(5), feet(4), 0, 0, 0, 0, 0, 0};
        for (int hung = 0; hung <= 10; hung++) due("story(0, " + hung + ")", x.story(0, hung), due[hung]);
        for (int hung = 1; hung <= 10; hung++) due("story(1, " + hung + ")", x.story(1, hung), 0);
    }

    @Edge(of = 30, words = "FEET from which a FALL with just these not good is so: those POP that were looked at")
    void p30JustThese() {
        TwoOnWall x = pieces(ANOTHER);
        due("story(1, 0): the upper one is not looked at", x.story(1, 0), feet(4, 5));
        due("story(2, 0)", x.story(2, 0), feet(8, 9, 10));
        due("story(2, 1)", x.story(2, 1), feet(7));
        due("story(2, 2)", x.story(2, 2), feet(6));
        due("story(3, 0)", x.story(3, 0), feet(6, 7, 8, 9, 10));
        due("story(0, 4): onto either", x.story(0, 4), feet(4, 8));
        // From 8 on the upper one can not hold (from 9 PULL is 8): it POPS, and must be among those that were found.
        x = Check.wall("top 10;give 0;holds 6;rack 1 1;rack 9 1;at 4 1 crack 9;at 6 1 crack 1;");
        x.put(4, 9);
        x.put(6, 1);
        due("story(0, 3): from 5 and 9, but that POPS", x.story(0, 3), feet(5));
        due("story(2, 0)", x.story(2, 0), feet(8, 9, 10));
    }

    // ---- promise 31: odds.

    private void likely(TwoOnWall x, int popped, int hung, int h, long due, long by) {
        part("odds(" + popped + ", " + hung + ", " + h + ")", x.odds(popped, hung, h, 0), x.odds(popped, hung, h, 1), due, by);
    }

    @Edge(of = 31, words = "PIECES good by CHANCE: 0, 1. BAD; NONE: it can not have been so at all.")
    void p31WhatIsAskedAndWhatNot() {
        TwoOnWall x = pieces("");
        likely(x, 0, 4, 4, 1, 1);
        int[] feet = {0, -1, 11, 41, MIN, MAX};
        for (int h : feet) due("odds(0, 4, " + h + ", 0)", x.odds(0, 4, h, 0), BAD);
        int[] hungs = {-1, 11, 41, MIN, MAX};
        for (int hung : hungs) due("odds(0, " + hung + ", 4, 0)", x.odds(0, hung, 4, 0), BAD);
        int[] bits = {2, 1024, -1, MIN, MAX};
        for (int popped : bits) due("odds(" + popped + ", 0, 4, 0)", x.odds(popped, 0, 4, 0), BAD);
        int[] whats = {-1, 2, MIN, MAX};
        for (int what : whats) due("odds(0, 4, 4, " + what + ")", x.odds(0, 4, 4, what), BAD);
        due("odds(0, 10, 10, 0)", x.odds(0, 10, 10, 0), NONE);
        due("odds(1, 1, 1, 1)", x.odds(1, 1, 1, 1), NONE);
        due("BAD ahead of NONE", x.odds(1, 1, 0, 1), BAD);
        due("BAD ahead of NONE", x.odds(1, 1, 1, 2), BAD);
    }

    @Edge(of = 31, words = "Fractions are in lowest terms, told as 0 the numerator, 1 the denominator, which is above 0 (0 is 0 by 1).")
    void p31LowestTerms() {
        TwoOnWall x = Check.wall("top 4;at 1 4;at 2 0;at 3 6;at 4 2;");
        likely(x, 0, 0, 1, 1, 3);
        likely(x, 0, 0, 2, 0, 1);
        likely(x, 0, 0, 3, 1, 2);
        likely(x, 0, 0, 4, 1, 6);
        likely(Check.wall("top 1;at 1 9;"), 0, 0, 1, 1, 1);
        x = pieces("");
        likely(x, 0, 0, 4, 0, 1);
    }

    @Edge(of = 31, words = "PIECES good by CHANCE")
    void p31ChanceFromZeroToTwenty() {
        // From 1 to 3 nothing is looked at; from 8 to 10 the PIECE holds: of HARD 1 each, by CHANCE.
        for (int chance = 0; chance <= 20; chance++) {
            TwoOnWall x = pieces("fits " + chance + " 0;");
            int by = 20;
            while (chance % by != 0 || 20 % by != 0) by--;
            int sum = 3 * 20 + 3 * chance;
            int least = 20;
            while (20 % least != 0 || sum % least != 0) least--;
            likely(x, 0, 0, 1, 20 / least, sum / least);
            int here = sum;
            while (chance % here != 0 || sum % here != 0) here--;
            likely(x, 0, 0, 9, chance / here, chance == 0 ? 1 : sum / here);
        }
        due("odds of one that is never good, and held", pieces("fits 0 0;").odds(0, 3, 5, 0), NONE);
        due("story of it", pieces("fits 0 0;").story(0, 3), feet(5));
        due("odds of one that is good for certain, and POPPED", pieces("fits 20 0;").odds(1, 0, 5, 0), NONE);
        likely(pieces("fits 0 0;"), 1, 0, 5, 1, 7);
        likely(pieces("fits 20 0;"), 0, 3, 5, 1, 1);
    }

    @Edge(of = 31, words = "each being as likely ahead as it is HARD")
    void p31HardZero() {
        TwoOnWall x = Check.wall("top 2;at 1 0;at 2 0;");
        due("odds of HARD 0 alone", x.odds(0, 0, 1, 0), NONE);
        due("story of HARD 0", x.story(0, 0), 6);
        likely(Check.wall("top 2;at 1 0;at 2 9;"), 0, 0, 1, 0, 1);
        likely(Check.wall("top 2;at 1 0;at 2 9;"), 0, 0, 2, 1, 1);
        // Held by the lower one: from 8 by HARD 5, from 9 by HARD 3, from 10 by HARD 0.
        x = pieces("rack 2 1;at 6 1 crack 1;at 8 5;at 9 3;at 10 0;");
        likely(x, 2, 0, 8, 5, 8);
        likely(x, 2, 0, 9, 3, 8);
        likely(x, 2, 0, 10, 0, 1);
        // Held by the upper one from 8, or by the lower one from 4.
        likely(x, 0, 4, 8, 5, 6);
        likely(x, 0, 4, 4, 1, 6);
        x.take(6);
        x.put(6, 2);
        likely(x, 0, 4, 8, 25, 34);
        likely(x, 0, 4, 4, 9, 34);
    }

    @Edge(of = 31, words = "PIECES (10 at most) are in CRACKS")
    void p31OfTenPieces() {
        // From 20 each of ten could have held (19 of 20 POP), from 40 none could.
        likely(ten(1), 1023, 0, 20, 6131066257801L, 16371066257801L);
        likely(ten(1), 1023, 0, 40, 10240000000000L, 16371066257801L);
        likely(ten(1), 1023, 0, 30, 0, 1);
        likely(ten(20), 1023, 0, 40, 1, 1);
        likely(ten(20), 1023, 0, 20, 0, 1);
        likely(ten(0), 1023, 0, 20, 1, 2);
    }

    // ---- promise 32: bolts.

    private void bolts(String text, int... due) {
        TwoOnWall x = Check.wall(text);
        due("bolts(0) of " + text, x.bolts(0), due.length);
        for (int i = 0; i < due.length; i++) due("bolts(10 and " + i + ") of " + text, x.bolts(10 + i), due[i]);
        due("bolts(10 and " + due.length + ") of " + text, x.bolts(10 + due.length), BAD);
        int[] bad = {-1, 1, 9, 50, MIN, MIN + 10, MAX};
        for (int what : bad) due("bolts(" + what + ") of " + text, x.bolts(what), BAD);
    }

    private void noBolts(String text) {
        TwoOnWall x = Check.wall(text);
        due("bolts(0) of " + text, x.bolts(0), NONE);
        int[] bad = {-1, 1, 9, 10, 11, MIN, MAX};
        for (int what : bad) due("bolts(" + what + ") of " + text, x.bolts(what), BAD);
    }

    @Edge(of = 32, words = "no FALL from a FOOT up to TOP that is above low, or above the lowest BOLT, STRIKES anything: the fewest")
    void p32AboveLow() {
        bolts("top 1;low 0;give 0;", 1);
        bolts("top 1;low 1;give 0;");
        bolts("top 9;low 9;");
        bolts("top 2;low 1;give 0;", 2);
        bolts("top 2;low 0;give 0;", 1, 2);
        bolts("top 10;low 9;give 0;", 6);
        bolts("top 4;low 2;give 0;", 3);
        bolts("top 12;low 1;give 0;", 2, 4, 7);
        bolts("top 2;low 1;give 50;", 2);
        bolts("top 3;low 2;give 50;", 3);
        bolts("top 4;low 2;give 50;", 3, 4);
    }

    @Edge(of = 32, words = "BOLTS: at FEET, always good, HOLD all.")
    void p32HoldAll() {
        // From 40 onto the BOLT at 21 PULL is 11; PIECES of no holds would hold 10 at most.
        bolts("top 40;low 9;give 0;holds 0;fits 0 0;", 6, 11, 21);
    }

    @Edge(of = 32, words = "STRUCK: the highest of LEDGES below h and no lower than where it is stopped")
    void p32LedgesToo() {
        bolts("top 10;give 9;at 9 1 ledge;", 3, 5, 10);
        bolts("top 4;low 1;give 0;at 1 1 ledge;", 2, 3);
        bolts("top 3;low 0;give 0;at 1 1 ledge;at 2 1 ledge;at 3 1 ledge;", 1, 2, 3);
    }

    @Edge(of = 32, words = "BOLTS: how many (what 0); 10 and i: the FOOT of the i-th from below")
    void p32AsManyAsMayBe() {
        StringBuilder b = new StringBuilder("top33;low0;give0;");
        for (int h = 1; h <= 32; h++) b.append("at").append(h).append(" 1ledge;");
        int[] due = new int[33];
        for (int i = 0; i < 33; i++) due[i] = i + 1;
        bolts(b.toString(), due);
    }

    @Edge(of = 32, words = "(of several rows of as few the one with the least first, and so on)")
    void p32OfSeveral() {
        // One BOLT: 6 to 10 do. Two: 2 or 3, then 4 (if 3 is first) or more.
        bolts("top 10;low 9;give 0;", 6);
        bolts("top 7;low 2;give 0;", 2, 4);
        bolts("top 8;low 2;give 0;", 3, 5);
        bolts("top 5;low 2;give 0;", 3);
    }

    @Edge(of = 32, words = "BAD: also one that there is not; NONE: not by any.")
    void p32NoneAndBadFirst() {
        noBolts("top 10;give 10;at 9 1 ledge;");
        noBolts("top 2;low 0;give 50;at 1 1 ledge;");
        bolts("top 2;low 0;give 49;at 1 1 ledge;", 1, 2);
    }
}
