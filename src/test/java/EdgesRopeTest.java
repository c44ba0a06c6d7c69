/** Boundary cases of the rope: promises 22 to 26. */
public final class EdgesRopeTest extends Edges {
    public static void main(String[] args) {
        new EdgesRopeTest().run(22, 26);
    }

    /** PIECES at 1 to 10 by SIDES 0 and 9 in turn, TOP (11) by SIDE 0: off by 14 at the lowest, by 18 at the others. */
    private static TwoOnWall zigzag() {
        StringBuilder b = new StringBuilder("top11;rack1 5;rack2 5;at11 1side0;");
        for (int h = 1; h <= 10; h++) {
            b.append("at").append(h).append(" 1crack").append(h < 6 ? 1 : 2).append("side").append(h % 2 == 1 ? 0 : 9).append(';');
        }
        TwoOnWall x = Check.wall(b.toString());
        for (int h = 1; h <= 10; h++) x.put(h, h < 6 ? 1 : 2);
        return x;
    }

    // ---- promise 22: drag.

    @Edge(of = 22, words = "DRAG (what 0), PIECES that are LIFTED (1, bits), THE ROPE's length from the ground to TOP in FEET")
    void p22NoPieceAndTen() {
        TwoOnWall x = zigzag();
        int[] ten = {176, 1023, 28};
        for (int i = 0; i < 3; i++) due("drag(" + i + ") of ten", x.drag(i), ten[i]);
        for (int h = 1; h <= 10; h++) x.sling(h, true);
        int[] slung = {88, 0, 19};
        for (int i = 0; i < 3; i++) due("drag(" + i + ") of ten with SLINGS", x.drag(i), slung[i]);
        x.strip();
        int[] none = {0, 0, 11};
        for (int i = 0; i < 3; i++) due("drag(" + i + ") of none", x.drag(i), none[i]);
        due("drag(2) of a new one", new TwoOnWall().drag(2), 20);
    }

    @Edge(of = 22, words = "(2: TOP, and (DRAG by 10, divided down) more). BAD.")
    void p22WhatIsAskedAndWhatNot() {
        TwoOnWall x = zigzag();
        int[] bad = {-1, 3, MIN, MAX};
        for (int what : bad) due("drag(" + what + ")", x.drag(what), BAD);
    }

    /** One PIECE between the ground (SIDE 5) and TOP (2). */
    private static TwoOnWall between(int side, int atTop) {
        TwoOnWall x = Check.wall("top 2;rack 1 1;at 1 1 crack 1 side " + side + ";at 2 1 side " + atTop + ";");
        x.put(1, 1);
        return x;
    }

    @Edge(of = 22, words = "(DRAG by 10, divided down) more")
    void p22TheRopeIsDividedDown() {
        for (int side = 0; side <= 9; side++) {
            for (int top = 0; top <= 9; top++) {
                TwoOnWall x = between(side, top);
                int off = Math.abs(2 * side - 5 - top);
                due("drag(0) of " + side + ", " + top, x.drag(0), off);
                due("drag(2) of DRAG " + off, x.drag(2), off >= 10 ? 3 : 2);
            }
        }
        due("drag(2) of DRAG 9", between(9, 4).drag(2), 2);
        due("drag(2) of DRAG 10", between(9, 3).drag(2), 3);
    }

    @Edge(of = 22, words = "a long SLING halves it, divided down; summed")
    void p22EachHalfIsDividedDown() {
        // Sides 5 and 5, 4 and 5 at TOP: off by 1 and by 2 and, with a third one, by odd numbers each.
        TwoOnWall x = Check.wall("top 4;rack 1 3;at 1 1 crack 1 side 6;at 2 1 crack 1 side 4;at 3 1 crack 1 side 9;at 4 1 side 5;");
        for (int h = 1; h <= 3; h++) x.put(h, 1);
        due("drag(0): 3 and 7 and 9", x.drag(0), 19);
        for (int h = 1; h <= 3; h++) x.sling(h, true);
        due("drag(0): 1 and 3 and 4", x.drag(0), 8);
        x.sling(2, false);
        due("drag(0): 1 and 7 and 4", x.drag(0), 12);
    }

    @Edge(of = 22, words = "by 2 or more each, and it has no SLING")
    void p22LiftedByTwoOrMoreEach() {
        int[][] sides = {{3, 5, 1}, {3, 4, 0}, {4, 9, 0}, {7, 5, 1}, {7, 6, 0}, {6, 0, 0}, {3, 1, 0}, {7, 9, 0}, {5, 5, 0}, {0, 9, 1}, {9, 0, 1}};
        for (int[] s : sides) due("drag(1) of " + s[0] + ", " + s[1], between(s[0], s[1]).drag(1), s[2]);
    }

    // ---- promise 23: slings.

    @Edge(of = 23, words = "With n (0 to 10) long SLINGS at most, wherever, others without: the least DRAG (what 0), these PIECES (1, bits; the fewest, then the least). BAD.")
    void p23NoneToTen() {
        TwoOnWall x = zigzag();
        int[] drag = {176, 167, 158, 149, 140, 131, 122, 113, 104, 95, 88};
        int[] bits = {0, 2, 6, 14, 30, 62, 126, 254, 510, 1022, 1023};
        for (int n = 0; n <= 10; n++) {
            due("slings(" + n + ", 0)", x.slings(n, 0), drag[n]);
            due("slings(" + n + ", 1)", x.slings(n, 1), bits[n]);
        }
        int[] ns = {-1, 11, MIN, MAX};
        for (int n : ns) {
            due("slings(" + n + ", 0)", x.slings(n, 0), BAD);
            due("slings(" + n + ", 1)", x.slings(n, 1), BAD);
        }
        int[] bad = {-1, 2, MIN, MAX};
        for (int what : bad) due("slings(1, " + what + ")", x.slings(1, what), BAD);
    }

    @Edge(of = 23, words = "With n (0 to 10) long SLINGS at most")
    void p23OfNoPieceAndOfFewer() {
        TwoOnWall none = new TwoOnWall();
        due("slings(0, 0) of none", none.slings(0, 0), 0);
        due("slings(10, 0) of none", none.slings(10, 0), 0);
        due("slings(10, 1) of none", none.slings(10, 1), 0);
        TwoOnWall x = between(9, 0);
        due("slings(0, 0)", x.slings(0, 0), 13);
        due("slings(0, 1)", x.slings(0, 1), 0);
        due("slings(10, 0)", x.slings(10, 0), 6);
        due("slings(10, 1)", x.slings(10, 1), 1);
    }

    @Edge(of = 23, words = "the fewest, then the least")
    void p23TheFewest() {
        due("slings(1, 1) of one that is not off", between(5, 5).slings(1, 1), 0);
        due("slings(1, 1) of one that is off by 1", between(5, 6).slings(1, 1), 1);
        due("slings(1, 0) of one that is off by 1", between(5, 6).slings(1, 0), 0);
        due("slings(10, 1) of one that is not off, from one side to the other", between(7, 9).slings(10, 1), 0);
        due("slings(10, 1) of one that is not off, from one side to the other", between(3, 1).slings(10, 1), 0);
        due("slings(1, 1) of one that is off by 4, all in line behind it", between(9, 9).slings(1, 1), 1);
        due("slings(1, 0) of one that is off by 4, all in line behind it", between(9, 9).slings(1, 0), 2);
        // They are off by 1 and by 2, or by 3 and by 4: a SLING saves as much at either.
        TwoOnWall x = Check.wall("top 3;rack 1 2;at 1 1 crack 1;at 2 1 crack 1 side 4;at 3 1 side 1;");
        x.put(1, 1);
        x.put(2, 1);
        due("slings(1, 0)", x.slings(1, 0), 2);
        due("slings(1, 1)", x.slings(1, 1), 1);
        due("slings(2, 1)", x.slings(2, 1), 3);
        x = Check.wall("top 3;rack 1 2;at 1 1 crack 1 side 4;at 2 1 crack 1 side 6;at 3 1 side 4;");
        x.put(1, 1);
        x.put(2, 1);
        due("slings(1, 0)", x.slings(1, 0), 5);
        due("slings(1, 1)", x.slings(1, 1), 1);
    }

    @Edge(of = 23, words = "wherever, others without")
    void p23SlingsThatAreThere() {
        TwoOnWall x = zigzag();
        x.sling(1, true);
        x.sling(7, true);
        due("slings(0, 0)", x.slings(0, 0), 176);
        due("slings(0, 1)", x.slings(0, 1), 0);
        due("slings(1, 1)", x.slings(1, 1), 2);
        due("piece(6, 4)", x.piece(6, 4), 1);
        due("piece(1, 4)", x.piece(1, 4), 0);
        due("drag(0)", x.drag(0), 176 - 7 - 9);
    }

    // ---- promise 24: pitches.

    private void stances(String text, int... due) {
        TwoOnWall x = Check.wall(text);
        due("pitches(0) of " + text, x.pitches(0), due.length);
        for (int i = 0; i < due.length; i++) due("pitches(10 and " + i + ") of " + text, x.pitches(10 + i), due[i]);
        due("pitches(10 and " + due.length + ") of " + text, x.pitches(10 + due.length), BAD);
        int[] bad = {-1, 1, 9, 50, MIN, MIN + 10, MAX};
        for (int what : bad) due("pitches(" + what + ") of " + text, x.pitches(what), BAD);
    }

    private void noStances(String text) {
        TwoOnWall x = Check.wall(text);
        due("pitches(0) of " + text, x.pitches(0), NONE);
        int[] bad = {-1, 1, 9, 10, 11, MIN, MAX};
        for (int what : bad) due("pitches(" + what + ") of " + text, x.pitches(what), BAD);
    }

    @Edge(of = 24, words = "each no more than rope above the one ahead")
    void p24NoMoreThanRope() {
        stances("top 10;rope 10;", 10);
        noStances("top 10;rope 9;");
        stances("top 10;rope 9;at 1 1 rest;", 1, 10);
        stances("top 10;rope 5;at 5 1 ledge;", 5, 10);
        noStances("top 10;rope 5;at 4 1 ledge;");
        noStances("top 10;rope 5;at 6 1 ledge;");
        stances("top 1;rope 1;", 1);
        stances("top 40;rope 60;", 40);
        stances("top 40;rope 40;", 40);
        noStances("top 40;rope 39;");
        noStances("top 2;rope 1;");
    }

    /** As many STANCES as a text can tell: a REST at each FOOT up to TOP, 37. */
    private static String rests() {
        StringBuilder b = new StringBuilder("top37;rope1;");
        for (int h = 1; h <= 36; h++) b.append("at").append(h).append(" 1rest;");
        return b.toString();
    }

    @Edge(of = 24, words = "PITCHES: how many (what 0); 10 and i: the STANCE at the end of the i-th (0 first).")
    void p24OneAndAsManyAsMayBe() {
        stances("top 40;", 40);
        int[] due = new int[37];
        for (int i = 0; i < 37; i++) due[i] = i + 1;
        stances(rests(), due);
    }

    @Edge(of = 24, words = "STANCES (FEET with a LEDGE or a REST, and TOP itself)")
    void p24WhatAStanceIs() {
        stances("top 6;rope 3;at 3 1 rest;", 3, 6);
        stances("top 6;rope 3;at 3 1 ledge;", 3, 6);
        stances("top 6;rope 3;at 3 1 ledge rest;at 6 1 ledge;", 3, 6);
        noStances("top 6;rope 3;at 3 1 crack 1;");
    }

    @Edge(of = 24, words = "the fewest PITCHES; of several the row with the least STANCES, from below")
    void p24OfSeveral() {
        stances("top 9;rope 5;at 4 1 rest;at 5 1 rest;", 4, 9);
        stances("top 9;rope 8;at 1 1 rest;at 4 1 rest;at 5 1 rest;at 8 1 rest;", 1, 9);
        stances("top 12;rope 5;at 2 1 rest;at 3 1 rest;at 4 1 rest;at 5 1 rest;at 7 1 rest;at 8 1 rest;at 9 1 rest;", 2, 7, 12);
        stances("top 9;rope 9;at 4 1 rest;at 5 1 rest;", 9);
    }

    @Edge(of = 24, words = "BAD: also one that there is not; NONE: there are none such.")
    void p24NoneAndBadFirst() {
        noStances("top 40;rope 1;");
        noStances("top 3;rope 1;at 1 1 rest;");
        noStances("top 10;rope 2;at 2 1 rest;at 4 1 rest;");
        noStances("top 10;rope 2;at 2 1 rest;at 4 1 rest;at 8 1 rest;");
        noStances("top 10;rope 2;at 2 1 rest;at 4 1 rest;at 6 1 rest;at 7 1 rest;");
        noStances("top 3;rope 1;at 2 1 rest;");
    }

    // ---- promise 25: leads.

    /** Pitches of HARD 4 and 9 and 0 and 1. */
    private static final String FOUR = "top 8;rope 2;at 1 1;at 2 3 ledge;at 3 2;at 4 7 rest;at 5 0;at 6 0 ledge;at 7 0;at 8 1;";

    @Edge(of = 25, words = "one is as good as a, the other as b (1 to 9 each)")
    void p25GoodFromOneToNine() {
        TwoOnWall x = Check.wall(FOUR);
        for (int a = 1; a <= 9; a++) {
            for (int b = 1; b <= 9; b++) {
                int better = Math.max(a, b);
                int free = (4 + better - 1) / better + (9 + better - 1) / better + 1;
                due("leads(" + a + ", " + b + ", false, 0)", x.leads(a, b, false, 0), free);
                int ifA = (4 + a - 1) / a + (9 + b - 1) / b + 1;
                int ifB = (4 + b - 1) / b + (9 + a - 1) / a + 1;
                due("leads(" + a + ", " + b + ", true, 0)", x.leads(a, b, true, 0), Math.min(ifA, ifB));
                due("leads(" + a + ", " + b + ", true, 10)", x.leads(a, b, true, 10), ifA <= ifB ? 0 : 1);
            }
        }
        int[] bad = {0, -1, 10, MIN, MAX};
        for (int n : bad) {
            due("leads(" + n + ", 1, true, 0)", x.leads(n, 1, true, 0), BAD);
            due("leads(1, " + n + ", true, 0)", x.leads(1, n, true, 0), BAD);
            due("leads(" + n + ", 9, false, 10)", x.leads(n, 9, false, 10), BAD);
            due("leads(9, " + n + ", false, 10)", x.leads(9, n, false, 10), BAD);
        }
    }

    @Edge(of = 25, words = "all HARD on it by that, divided up")
    void p25DividedUp() {
        int[] due = {9, 5, 3, 3, 2, 2, 2, 2, 1};
        for (int a = 1; a <= 9; a++) {
            due("9 by " + a, Check.wall("top 1;at 1 9;").leads(a, 1, false, 0), a == 1 ? 9 : due[a - 1]);
            due("0 by " + a, Check.wall("top 1;at 1 0;").leads(a, a, true, 0), 0);
            due("1 by " + a, Check.wall("top 1;at 1 1;").leads(a, a, true, 0), 1);
        }
        StringBuilder most = new StringBuilder("top40;");
        for (int h = 1; h <= 40; h++) most.append("at").append(h).append(" 9;");
        due("360 by 1", Check.wall(most.toString()).leads(1, 1, false, 0), 360);
        due("360 by 9", Check.wall(most.toString()).leads(1, 9, true, 0), 40);
        due("360 by 7", Check.wall(most.toString()).leads(7, 6, true, 0), 52);
    }

    @Edge(of = 25, words = "what all cost (what 0); 10 and i: who leads the i-th (0, 1; of several the row with the least first). BAD: likewise; NONE.")
    void p25WhatIsAskedAndWhatNot() {
        TwoOnWall x = Check.wall(FOUR);
        int[] bad = {-1, 1, 9, 14, 50, MIN, MIN + 10, MAX};
        for (int what : bad) {
            due("leads(1, 1, true, " + what + ")", x.leads(1, 1, true, what), BAD);
            due("leads(1, 1, false, " + what + ")", x.leads(1, 1, false, what), BAD);
        }
        for (int i = 0; i < 4; i++) {
            due("leads(3, 3, true, 10 and " + i + "), alike", x.leads(3, 3, true, 10 + i), i % 2);
            due("leads(3, 3, false, 10 and " + i + "), alike", x.leads(3, 3, false, 10 + i), 0);
            due("leads(1, 2, true, 10 and " + i + ")", x.leads(1, 2, true, 10 + i), i % 2);
            due("leads(2, 1, true, 10 and " + i + ")", x.leads(2, 1, true, 10 + i), 1 - i % 2);
            due("leads(1, 2, false, 10 and " + i + ")", x.leads(1, 2, false, 10 + i), i < 2 ? 1 : 0);
            due("leads(2, 1, false, 10 and " + i + ")", x.leads(2, 1, false, 10 + i), 0);
        }
    }

    @Edge(of = 25, words = "they take turns or not (turns)")
    void p25OneAndAsManyAsMayBe() {
        TwoOnWall x = Check.wall("top 1;at 1 4;");
        due("leads(1, 2, true, 0)", x.leads(1, 2, true, 0), 2);
        due("leads(1, 2, true, 10)", x.leads(1, 2, true, 10), 1);
        due("leads(2, 1, false, 10)", x.leads(2, 1, false, 10), 0);
        due("leads(2, 1, false, 11)", x.leads(2, 1, false, 11), BAD);
        x = Check.wall(rests());
        due("leads(1, 9, true, 0)", x.leads(1, 9, true, 0), 37);
        due("leads(1, 9, true, 46)", x.leads(1, 9, true, 46), 0);
        due("leads(1, 9, true, 45)", x.leads(1, 9, true, 45), 1);
        due("leads(1, 9, false, 46)", x.leads(1, 9, false, 46), 0);
        due("leads(1, 9, true, 47)", x.leads(1, 9, true, 47), BAD);
        due("leads(1, 9, false, 47)", x.leads(1, 9, false, 47), BAD);
    }

    @Edge(of = 25, words = "BAD: likewise; NONE.")
    void p25NoneAndBadFirst() {
        TwoOnWall x = Check.wall("top 10;rope 9;");
        due("leads(1, 9, true, 0)", x.leads(1, 9, true, 0), NONE);
        due("leads(9, 1, false, 0)", x.leads(9, 1, false, 0), NONE);
        due("leads(0, 1, true, 0)", x.leads(0, 1, true, 0), BAD);
        due("leads(1, 10, true, 0)", x.leads(1, 10, true, 0), BAD);
        due("leads(1, 1, true, 1)", x.leads(1, 1, true, 1), BAD);
        due("leads(1, 1, true, 10)", x.leads(1, 1, true, 10), BAD);
    }

    // ---- promise 26: down.

    private void downs(String text, int... due) {
        TwoOnWall x = Check.wall(text);
        for (int h = 0; h < due.length; h++) due("down(" + h + ") of " + text, x.down(h), due[h]);
        due("down(" + due.length + ") of " + text, x.down(due.length), BAD);
    }

    @Edge(of = 26, words = "DOWN from a FOOT (0 to TOP): PIECES left. BAD; NONE: there is no way.")
    void p26FromZeroToTop() {
        int[] bad = {-1, 41, 42, MIN, MAX};
        for (int h : bad) {
            due("down(" + h + ")", new TwoOnWall().down(h), BAD);
            due("down(" + h + ") of top 40", Check.wall("top 40;").down(h), BAD);
        }
        due("down(21)", new TwoOnWall().down(21), BAD);
        due("down(40)", Check.wall("top 40;").down(40), NONE);
        downs("top 1;rope 2;", 0, 1);
        downs("top 2;rope 60;", 0, 2, 1);
        downs("top 1;rope 1;", 0, NONE);
    }

    @Edge(of = 26, words = "one goes from a FOOT half the rope at most (divided down) to a STANCE or the ground")
    void p26HalfTheRopeDividedDown() {
        downs("top 6;rope 6;", 0, 2, 2, 2, NONE, NONE, NONE);
        downs("top 6;rope 7;", 0, 2, 2, 2, NONE, NONE, NONE);
        downs("top 6;rope 8;", 0, 2, 2, 2, 2, NONE, NONE);
        downs("top 4;rope 4;at 2 1 rest;", 0, 2, 1, 3, 2);
        downs("top 4;rope 5;at 2 1 rest;", 0, 2, 1, 3, 2);
        downs("top 4;rope 3;at 2 1 rest;", 0, 2, NONE, NONE, NONE);
        downs("top 4;rope 3;at 1 1 rest;at 2 1 ledge;", 0, 1, 2, 4, NONE);
        due("down(30) of rope 60", Check.wall("top 40;rope 60;").down(30), 2);
        due("down(31) of rope 60", Check.wall("top 40;rope 60;").down(31), NONE);
    }

    @Edge(of = 26, words = "leaving 1 PIECE where one begins (2, if it is no STANCE): the fewest that are left")
    void p26TheFewestThatAreLeft() {
        downs("top 6;rope 8;at 1 1 rest;at 3 1 ledge;", 0, 1, 2, 1, 2, 3, 2);
        downs("top 4;rope 2;at 1 1 rest;at 2 1 rest;at 3 1 rest;", 0, 1, 2, 3, 4);
        downs("top 4;rope 4;at 1 1 rest;at 2 1 rest;at 3 1 rest;", 0, 1, 1, 2, 2);
        StringBuilder most = new StringBuilder("top37;rope2;");
        for (int h = 1; h <= 36; h++) most.append("at").append(h).append(" 1rest;");
        due("down(37) by one FOOT each", Check.wall(most.toString()).down(37), 37);
    }
}
