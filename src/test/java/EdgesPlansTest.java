/** Boundary cases of plans: promises 18 to 21. */
public final class EdgesPlansTest extends Edges {
    public static void main(String[] args) {
        new EdgesPlansTest().run(18, 21);
    }

    /**
     * A LEDGE and a CRACK at each FOOT up to TOP: from each one falls onto the LEDGE below (HARM 1), but not with a
     * PIECE there; so each PIECE takes 1 of RISK. Sizes are 1 up to 5, 2 up to 10, 3 above.
     */
    private static String ledges(int top) {
        StringBuilder b = new StringBuilder("top" + top + ";low0;give0;holds60;");
        for (int h = 1; h <= top; h++) b.append("at").append(h).append(" 1ledge crack").append((h + 4) / 5).append(';');
        return b.toString();
    }

    private static final String RACK = "rack1 5;rack2 5;rack3 5;";

    /** PLAN: its RISK and its FEET; there is no more of it. */
    private void plans(TwoOnWall x, int risk, int... feet) {
        due("plan(0)", x.plan(0), risk);
        due("plan(1)", x.plan(1), feet.length);
        for (int i = 0; i < feet.length; i++) due("plan(10 and " + i + ")", x.plan(10 + i), feet[i]);
        due("plan(10 and " + feet.length + ")", x.plan(10 + feet.length), BAD);
    }

    private void plans(String text, int risk, int... feet) {
        plans(Check.wall(text), risk, feet);
    }

    // ---- promise 18: plan.

    @Edge(of = 18, words = "RISK (what 0), how many PIECES (1); 10 and i: the FOOT of the i-th from below. BAD: also one that there is not")
    void p18WhatIsAskedAndWhatNot() {
        TwoOnWall x = Check.wall(ledges(4) + RACK);
        plans(x, 0, 1, 2, 3, 4);
        int[] bad = {-1, 2, 3, 9, 14, 15, 19, 20, 50, MIN, MIN + 10, MIN + 13, MAX, MAX - 1};
        for (int what : bad) due("plan(" + what + ")", x.plan(what), BAD);
    }

    @Edge(of = 18, words = "for some of the CRACKS (the lowest 10 of them at most) a PIECE that FITS each")
    void p18NoCrackOneAndTen() {
        plans("top 4;", 7);
        plans("top 1;low 0;give 0;rack 1 1;at 1 1 crack 1;", 0, 1);
        plans(ledges(10) + RACK, 0, 1, 2, 3, 4, 5, 6, 7, 8, 9, 10);
    }

    @Edge(of = 18, words = "(the lowest 10 of them at most)")
    void p18TheEleventhIsForNone() {
        String text = ledges(11).replace("at11 1", "at11 9") + RACK;
        plans(text, 9, 1, 2, 3, 4, 5, 6, 7, 8, 9, 10);
        plans(ledges(11).replace("at11 1", "at11 9") + "rack3 1;", 19);
        // A CRACK that no PIECE FITS is one of the ten all the same.
        plans(ledges(11) + "rack2 5;rack3 1;", 6, 6, 7, 8, 9, 10);
    }

    @Edge(of = 18, words = "a PIECE that FITS each, from THE RACK")
    void p18OnlyWhatFitsFromTheRack() {
        plans(ledges(4), 4);
        plans(ledges(4) + "rack2 5;", 4);
        plans(ledges(4) + "rack1 1;", 3, 1);
        plans(ledges(4) + "rack1 3;", 1, 1, 2, 3);
        plans(ledges(6) + "rack1 5;", 1, 1, 2, 3, 4, 5);
        plans(ledges(6) + "rack1 0;rack2 1;", 5, 6);
        plans(ledges(4).replace("crack1", "crack10") + "rack10 3;", 1, 1, 2, 3);
    }

    @Edge(of = 18, words = "that with the least RISK that is not TOO MUCH")
    void p18AsMuchAsStrengthIsNotTooMuch() {
        String text = ledges(4) + RACK + "place1;strength";
        plans(text + "8;", 0, 1, 2, 3, 4);
        plans(text + "7;", 1, 1, 2, 3);
        plans(text + "5;", 3, 1);
        plans(text + "4;", 4);
    }

    @Edge(of = 18, words = "of several the fewest PIECES, then the least bits (by CRACKS from below)")
    void p18OfSeveral() {
        // Only FALLS from 3 count: a PIECE at 2 or at 3 does.
        plans("top 3;low 2;give 0;holds 60;rack 1 3;at 1 1 crack 1;at 2 1 crack 1;at 3 1 crack 1;", 0, 2);
        // No PIECE makes RISK less.
        plans("top 3;low 2;give 0;holds 60;rack 1 3;at 1 1 crack 1;at 2 1 ledge;", 1);
        // 2 and 8 are bits 9, 3 and 7 are bits 6; of each size there is one.
        plans("top 8;low 0;give 0;holds 60;rack 1 1;rack 2 1;at 1 0;at 2 0 crack 1;at 3 1 crack 2;"
            + "at 4 0;at 5 0;at 6 0;at 7 0 crack 1;at 8 1 crack 2;", 0, 3, 7);
    }

    @Edge(of = 18, words = "NONE: each is TOO MUCH.")
    void p18NoneAndBadFirst() {
        TwoOnWall x = Check.wall(ledges(4) + RACK + "strength3;");
        due("plan(0)", x.plan(0), NONE);
        due("plan(1)", x.plan(1), NONE);
        int[] bad = {-1, 2, 9, 10, 13, MIN, MAX};
        for (int what : bad) due("plan(" + what + ")", x.plan(what), BAD);
        x = Check.wall("top 1;strength 1;at 1 2 rest;");
        due("plan(0), TOO MUCH at the first FOOT", x.plan(0), NONE);
    }

    @Edge(of = 18, words = "(PIECES that are put now are as if they were in THE RACK.)")
    void p18PiecesThatArePut() {
        TwoOnWall x = Check.wall(ledges(4) + "rack1 2;rack2 1;");
        plans(x, 2, 1, 2);
        x.put(3, 1);
        plans(x, 2, 1, 2);
        x.put(4, 1);
        x.put(2, 2);
        due("count(4)", x.count(4), 0);
        plans(x, 2, 1, 2);
        x.strip();
        plans(x, 2, 1, 2);
    }

    // ---- promise 19: keep.

    private void keeps(TwoOnWall x, int r, int risk, int pieces, int tooMuch) {
        due("keep(" + r + ", 0)", x.keep(r, 0), risk);
        due("keep(" + r + ", 1)", x.keep(r, 1), pieces);
        due("keep(" + r + ", 2)", x.keep(r, 2), tooMuch);
    }

    @Edge(of = 19, words = "RULE r (1 to 40): RISK (what 0), how many PIECES (1), whether it is TOO MUCH (2). BAD.")
    void p19WhatIsAskedAndWhatNot() {
        TwoOnWall x = Check.wall("top 40;low 9;give 0;rack 1 1;at 40 1 crack 1;");
        keeps(x, 1, 775 - 40, 1, 0);
        keeps(x, 40, 775 - 40, 1, 0);
        int[] rs = {0, -1, 41, MIN, MAX};
        for (int r : rs) {
            for (int what = 0; what < 3; what++) due("keep(" + r + ", " + what + ")", x.keep(r, what), BAD);
        }
        int[] bad = {-1, 3, MIN, MAX};
        for (int what : bad) due("keep(1, " + what + ")", x.keep(1, what), BAD);
    }

    @Edge(of = 19, words = "is put into each of these CRACKS that is r or more above the last PIECE (at first the ground)")
    void p19JustSoFarAbove() {
        TwoOnWall x = Check.wall(ledges(10) + RACK);
        for (int r = 1; r <= 40; r++) keeps(x, r, 10 - 10 / r, 10 / r, 0);
        x = Check.wall("top 9;low 0;give 0;rack 1 5;at 3 1 crack 1;at 7 1 crack 1;");
        int[] due = {2, 2, 2, 1, 1, 1, 1, 0};
        for (int r = 1; r <= 8; r++) due("keep(" + r + ", 1)", x.keep(r, 1), due[r - 1]);
    }

    @Edge(of = 19, words = "a PIECE that FITS (if THE RACK has one left)")
    void p19IfTheRackHasOneLeft() {
        TwoOnWall x = Check.wall(ledges(10) + "rack1 2;rack2 5;");
        keeps(x, 1, 3, 7, 0);
        x = Check.wall(ledges(10) + "rack1 1;rack2 5;");
        keeps(x, 2, 6, 4, 0);
        keeps(Check.wall(ledges(10)), 1, 10, 0, 0);
        keeps(Check.wall(ledges(10) + "rack3 5;"), 1, 10, 0, 0);
        keeps(Check.wall(ledges(5) + "rack2 5;"), 1, 5, 0, 0);
        keeps(Check.wall(ledges(4).replace("crack1", "crack10") + "rack10 3;"), 1, 1, 3, 0);
    }

    @Edge(of = 19, words = "(the lowest 10 of them at most)")
    void p19TheEleventhIsForNone() {
        TwoOnWall x = Check.wall(ledges(11) + RACK);
        keeps(x, 1, 1, 10, 0);
        keeps(x, 10, 10, 1, 0);
        keeps(x, 11, 11, 0, 0);
    }

    @Edge(of = 19, words = "whether it is TOO MUCH (2)")
    void p19AsMuchAsStrengthIsNotTooMuch() {
        TwoOnWall x = Check.wall(ledges(10) + RACK + "place1;strength15;");
        keeps(x, 1, 0, 10, 1);
        keeps(x, 2, 5, 5, 0);
        x = Check.wall(ledges(10) + RACK + "place1;strength14;");
        keeps(x, 2, 5, 5, 1);
        keeps(x, 3, 7, 3, 0);
        keeps(Check.wall("top 2;strength 1;"), 40, 0, 0, 1);
        keeps(Check.wall("top 2;strength 1;at 1 2 rest;"), 40, 0, 0, 1);
        keeps(Check.wall("top 2;strength 2;at 1 2 rest;"), 40, 0, 0, 0);
    }

    @Edge(of = 19, words = "(PIECES as for plan().)")
    void p19PiecesThatArePut() {
        TwoOnWall x = Check.wall(ledges(4) + "rack1 2;rack2 1;");
        x.put(3, 1);
        x.put(4, 1);
        x.put(2, 2);
        keeps(x, 1, 2, 2, 0);
        keeps(x, 3, 3, 1, 0);
        due("count(0)", x.count(0), 3);
    }

    // ---- promise 20: best.

    private void bests(String text, int r, int risk, int more) {
        TwoOnWall x = Check.wall(text);
        due("best(0)", x.best(0), r);
        due("best(1)", x.best(1), risk);
        due("best(2)", x.best(2), more);
    }

    @Edge(of = 20, words = "(what 0), RISK by it (1), how much more that is than by PLAN (2). BAD;")
    void p20WhatIsAskedAndWhatNot() {
        TwoOnWall x = Check.wall(ledges(10) + RACK + "place1;strength14;");
        int[] due = {3, 7, 1};
        for (int what = 0; what < 3; what++) due("best(" + what + ")", x.best(what), due[what]);
        int[] bad = {-1, 3, 10, MIN, MAX};
        for (int what : bad) due("best(" + what + ")", x.best(what), BAD);
    }

    @Edge(of = 20, words = "The r with the least RISK that is not TOO MUCH, of several the greatest")
    void p20OfSeveralTheGreatest() {
        String text = ledges(10) + RACK + "place1;strength";
        bests(text + "20;", 1, 0, 0);
        bests(text + "19;", 2, 5, 4);
        bests(text + "15;", 2, 5, 0);
        bests(text + "14;", 3, 7, 1);
        bests(text + "12;", 5, 8, 0);
        bests(text + "11;", 10, 9, 0);
        bests(text + "10;", 40, 10, 0);
        bests("top 1;", 40, 0, 0);
        bests("top 40;low 9;give 0;rack 1 1;at 40 1 crack 1;", 40, 775 - 40, 0);
        bests("top 40;low 9;give 0;rack 1 1;at 39 1 crack 1;", 39, 775 - 39 - 40, 0);
    }

    @Edge(of = 20, words = "NONE: each is TOO MUCH (or PLAN is).")
    void p20NoneAndBadFirst() {
        String[] texts = {ledges(10) + "strength9;", "top 40;strength 45;place 10;rack 1 1;at 40 1 crack 1;"};
        int[] plan = {NONE, 775 + 42};
        for (int i = 0; i < 2; i++) {
            TwoOnWall x = Check.wall(texts[i]);
            due("plan(0)", x.plan(0), plan[i]);
            for (int what = 0; what < 3; what++) due("best(" + what + ")", x.best(what), NONE);
            due("best(3)", x.best(3), BAD);
            due("best(-1)", x.best(-1), BAD);
        }
    }

    // ---- promise 21: adopt.

    @Edge(of = 21, words = "PIECES become those of PLAN, without SLINGS: how many.")
    void p21NoneOneAndTen() {
        due("adopt() of no CRACK", new TwoOnWall().adopt(), 0);
        TwoOnWall x = Check.wall(ledges(4) + "rack1 1;rack2 1;");
        x.put(3, 1);
        x.put(2, 2);
        x.sling(2, true);
        x.sling(3, true);
        due("adopt() of one", x.adopt(), 1);
        due("count(0)", x.count(0), 1);
        due("piece(0, 0)", x.piece(0, 0), 1);
        due("piece(0, 1)", x.piece(0, 1), 1);
        due("rule(11)", x.rule(11), 0);
        due("rule(12)", x.rule(12), 1);
        x.sling(1, true);
        due("adopt() once more", x.adopt(), 1);
        due("piece(0, 4), a SLING at the same FOOT", x.piece(0, 4), 0);
        x = Check.wall(ledges(10) + RACK);
        due("adopt() of ten", x.adopt(), 10);
        for (int k = 0; k < 10; k++) {
            due("piece(" + k + ", 0)", x.piece(k, 0), k + 1);
            due("piece(" + k + ", 1)", x.piece(k, 1), k < 5 ? 1 : 2);
            due("piece(" + k + ", 4)", x.piece(k, 4), 0);
        }
        due("count(4)", x.count(4), 5);
    }

    @Edge(of = 21, words = "PIECES become those of PLAN")
    void p21OfNoPiece() {
        TwoOnWall x = Check.wall("top 3;low 3;rack 1 2;at 1 1 crack 1;at 2 1 crack 1;");
        x.put(1, 1);
        x.put(2, 1);
        due("adopt() of none", x.adopt(), 0);
        due("count(0)", x.count(0), 0);
        due("rule(11)", x.rule(11), 2);
    }

    @Edge(of = 21, words = "NONE likewise.")
    void p21NoneChangesNothing() {
        changesNothing(() -> {
            TwoOnWall x = Check.wall(ledges(4) + RACK + "strength3;");
            x.put(2, 1);
            x.sling(2, true);
            x.put(3, 2);
            return x;
        }, x -> due("adopt()", x.adopt(), NONE));
    }
}
