/** Boundary cases of pieces: promises 8 to 12. */
public final class EdgesPiecesTest extends Edges {
    private static final int[] NO_FEET = {0, -1, 13, 40, 41, MIN, MAX};

    public static void main(String[] args) {
        new EdgesPiecesTest().run(8, 12);
    }

    private static TwoOnWall ten() {
        TwoOnWall x = Check.wall(TWELVE);
        for (int h = 1; h <= 10; h++) x.put(h, x.foot(h, 1));
        return x;
    }

    /** PIECES at 2 and 6 (this with a SLING), one TRY, an IMAGE. */
    private static TwoOnWall two() {
        TwoOnWall x = Check.wall(TWELVE);
        x.put(2, 1);
        x.put(6, 3);
        x.sling(6, true);
        x.tried(0, true);
        x.image(0);
        return x;
    }

    // ---- promise 8: put.

    @Edge(of = 8, words = "A PIECE of a size from THE RACK is put into the CRACK at a FOOT: its number. BAD;")
    void p08BadIsNoFoot() {
        TwoOnWall x = Check.wall(TWELVE);
        for (int h : NO_FEET) due("put(" + h + ", 1)", x.put(h, 1), BAD);
        due("put(1, 1)", x.put(1, 1), 0);
        due("put(12, 3)", x.put(12, 3), 1);
        x = Check.wall("top 40;rack 4 2;at 1 1 crack 4;at 40 1 crack 4;");
        due("put(40, 4)", x.put(40, 4), 0);
        due("put(41, 4)", x.put(41, 4), BAD);
        due("put(1, 4)", x.put(1, 4), 0);
    }

    @Edge(of = 8, words = "of each size 1 to 10 so many PIECES (0 to 5; 0)")
    void p08BadIsNoSize() {
        TwoOnWall x = Check.wall("rack 1 5;rack 10 5;at 1 1 crack 1;at 2 1 crack 10;");
        int[] sizes = {0, -1, 11, 12, MIN, MAX};
        for (int s : sizes) {
            due("put(1, " + s + ")", x.put(1, s), BAD);
            due("put(2, " + s + ")", x.put(2, s), BAD);
        }
        due("put(1, 1)", x.put(1, 1), 0);
        due("put(2, 10)", x.put(2, 10), 1);
    }

    @Edge(of = 8, words = "STATE: there is no CRACK, one is there, it does not FIT, not NEARLY")
    void p08StateWithoutACrack() {
        TwoOnWall x = Check.wall("rack 1 5;rack 10 5;at 1 1 ledge;");
        due("put(1, 1)", x.put(1, 1), STATE);
        due("put(2, 1)", x.put(2, 1), STATE);
        due("put(20, 10)", x.put(20, 10), STATE);
    }

    @Edge(of = 8, words = "STATE: there is no CRACK, one is there, it does not FIT, not NEARLY")
    void p08StateWhereOneIs() {
        TwoOnWall x = two();
        due("put(2, 1)", x.put(2, 1), STATE);
        due("put(2, 2)", x.put(2, 2), STATE);
        due("put(6, 2)", x.put(6, 2), STATE);
        x.take(6);
        due("put(6, 2) once it is out", x.put(6, 2), 1);
    }

    @Edge(of = 8, words = "One FITS whose size is that of the CRACK, NEARLY whose size is 1 more or less.")
    void p08StateByTwoOff() {
        StringBuilder all = new StringBuilder("top 1;");
        for (int s = 1; s <= 10; s++) all.append("rack ").append(s).append(" 1;");
        for (int crack = 1; crack <= 10; crack++) {
            TwoOnWall x = Check.wall(all + "at 1 1 crack " + crack + ";");
            for (int s = 1; s <= 10; s++) {
                boolean goes = s >= crack - 1 && s <= crack + 1;
                due("put(1, " + s + ") into a CRACK of " + crack, x.put(1, s), goes ? 0 : STATE);
                if (goes) due("CHANCE", x.piece(0, 2), s == crack ? 18 : 10);
                x.strip();
            }
        }
    }

    @Edge(of = 8, words = "PIECES (10 at most) are in CRACKS")
    void p08FullIsTheEleventh() {
        TwoOnWall x = Check.wall(TWELVE);
        for (int h = 1; h <= 10; h++) due("put(" + h + ")", x.put(h, x.foot(h, 1)), h - 1);
        due("put(11, 3)", x.put(11, 3), FULL);
        due("put(12, 2)", x.put(12, 2), FULL);
        x.take(10);
        due("put(11, 3) in place of another", x.put(11, 3), 9);
        due("put(12, 2)", x.put(12, 2), FULL);
        x.strip();
        due("put(12, 2)", x.put(12, 2), 0);
    }

    @Edge(of = 8, words = "NONE: THE RACK has none.")
    void p08NoneOfTheRack() {
        TwoOnWall x = Check.wall("rack 2 1;at 1 1 crack 2;at 2 1 crack 2;at 3 1 crack 2;");
        due("put(1, 3): none at all", x.put(1, 3), NONE);
        due("put(1, 2)", x.put(1, 2), 0);
        due("put(2, 2): the only one is put", x.put(2, 2), NONE);
        x.take(1);
        due("put(2, 2): it is back", x.put(2, 2), 0);
        x = Check.wall("rack 2 5;at 1 1 crack 2;at 2 1 crack 2;at 3 1 crack 2;at 4 1 crack 2;at 5 1 crack 2;at 6 1 crack 2;");
        for (int h = 1; h <= 5; h++) due("put(" + h + ", 2)", x.put(h, 2), h - 1);
        due("put(6, 2): the sixth", x.put(6, 2), NONE);
    }

    @Edge(of = 8, words = "the first that fits")
    void p08TheFirstThatFits() {
        TwoOnWall x = ten();
        due("BAD ahead of STATE: one is there", x.put(1, 0), BAD);
        due("BAD ahead of STATE: no such FOOT", x.put(13, 9), BAD);
        due("BAD ahead of FULL", x.put(12, 11), BAD);
        due("STATE ahead of FULL: one is there", x.put(1, 1), STATE);
        due("STATE ahead of FULL and NONE: it fits not", x.put(12, 9), STATE);
        due("FULL ahead of NONE", x.put(12, 4), FULL);
        x.take(1);
        due("NONE", x.put(12, 4), NONE);
        due("STATE ahead of NONE: there is no CRACK", Check.wall("top 2;").put(1, 4), STATE);
        due("STATE ahead of NONE: it fits not", x.put(12, 5), STATE);
        due("STATE ahead of NONE: one is there", x.put(2, 7), STATE);
    }

    @Edge(of = 8, words = "by FEET (PIECE 0 is the lowest)")
    void p08NumbersGoUpByFeet() {
        TwoOnWall x = Check.wall(TWELVE);
        int[] feet = {6, 12, 1, 9, 5};
        int[] due = {0, 1, 0, 2, 1};
        for (int i = 0; i < 5; i++) due("put(" + feet[i] + ")", x.put(feet[i], x.foot(feet[i], 1)), due[i]);
        int[] row = {1, 5, 6, 9, 12};
        for (int k = 0; k < 5; k++) {
            due("piece(" + k + ", 0)", x.piece(k, 0), row[k]);
            due("foot(" + row[k] + ", 5)", x.foot(row[k], 5), k);
        }
    }

    @Edge(of = 8, words = "by FEET (PIECE 0 is the lowest)")
    void p08ThoseAboveStayAsTheyAre() {
        TwoOnWall x = Check.wall(TWELVE);
        x.put(12, 2);
        x.sling(12, true);
        x.put(9, 3);
        x.put(5, 1);
        int[][] due = {{5, 1, 10, 0}, {9, 3, 18, 0}, {12, 2, 10, 1}};
        for (int k = 0; k < 3; k++) {
            due("piece(" + k + ", 0)", x.piece(k, 0), due[k][0]);
            due("piece(" + k + ", 1)", x.piece(k, 1), due[k][1]);
            due("piece(" + k + ", 2)", x.piece(k, 2), due[k][2]);
            due("piece(" + k + ", 4)", x.piece(k, 4), due[k][3]);
        }
    }

    @Edge(of = 8, words = "what is refused changes nothing (but THE TAPE, as told)")
    void p08RefusedChangesNothing() {
        changesNothing(EdgesPiecesTest::two, x -> {
            x.put(0, 1);
            x.put(3, 11);
            x.put(3, 3);
            x.put(2, 1);
            due("put(12, 4)", x.put(12, 4), NONE);
        });
        changesNothing(EdgesPiecesTest::ten, x -> due("put(12, 3)", x.put(12, 3), FULL));
    }

    // ---- promise 9: take.

    @Edge(of = 9, words = "The PIECE at a FOOT is taken out, back to THE RACK: its size. BAD; NONE: none is there.")
    void p09BadAndNone() {
        TwoOnWall x = two();
        for (int h : NO_FEET) due("take(" + h + ")", x.take(h), BAD);
        due("take(1)", x.take(1), NONE);
        due("take(12)", x.take(12), NONE);
        due("take(6)", x.take(6), 3);
        due("take(6) once more", x.take(6), NONE);
        due("take(2)", x.take(2), 1);
        due("take(2) once more", x.take(2), NONE);
    }

    @Edge(of = 9, words = "back to THE RACK")
    void p09BackToTheRack() {
        TwoOnWall x = two();
        due("rule(13)", x.rule(13), 4);
        x.take(6);
        due("rule(13): by its own size", x.rule(13), 5);
        due("rule(12): not by that of the CRACK", x.rule(12), 5);
        due("count(4)", x.count(4), 14);
    }

    @Edge(of = 9, words = "by FEET (PIECE 0 is the lowest)")
    void p09OfTenTheLowestAndTheHighest() {
        TwoOnWall x = ten();
        x.sling(10, true);
        due("take(1)", x.take(1), 1);
        for (int k = 0; k < 9; k++) {
            due("piece(" + k + ", 0)", x.piece(k, 0), k + 2);
            due("piece(" + k + ", 1)", x.piece(k, 1), (k + 5) / 4);
        }
        due("piece(9, 0)", x.piece(9, 0), BAD);
        due("piece(8, 4)", x.piece(8, 4), 1);
        due("piece(7, 4)", x.piece(7, 4), 0);
        due("take(10)", x.take(10), 3);
        due("count(0)", x.count(0), 8);
        due("piece(7, 0)", x.piece(7, 0), 9);
        due("put(10, 3)", x.put(10, 3), 8);
        due("it comes without a SLING", x.piece(8, 4), 0);
    }

    @Edge(of = 9, words = "what is refused changes nothing (but THE TAPE, as told)")
    void p09RefusedChangesNothing() {
        changesNothing(EdgesPiecesTest::two, x -> {
            x.take(0);
            x.take(13);
            x.take(1);
        });
    }

    // ---- promise 10: sling.

    @Edge(of = 10, words = "The PIECE at a FOOT has a long SLING, or not: whether it had. BAD; NONE likewise.")
    void p10BadAndNone() {
        TwoOnWall x = two();
        for (int h : NO_FEET) {
            due("sling(" + h + ", true)", x.sling(h, true), BAD);
            due("sling(" + h + ", false)", x.sling(h, false), BAD);
        }
        due("sling(1, true)", x.sling(1, true), NONE);
        due("sling(12, false)", x.sling(12, false), NONE);
        x.take(6);
        due("sling(6, true) where one was", x.sling(6, true), NONE);
    }

    @Edge(of = 10, words = "whether it had")
    void p10WhetherItHad() {
        TwoOnWall x = two();
        due("sling(2, false)", x.sling(2, false), 0);
        due("sling(2, true)", x.sling(2, true), 0);
        due("sling(2, true)", x.sling(2, true), 1);
        due("sling(2, false)", x.sling(2, false), 1);
        due("sling(2, false)", x.sling(2, false), 0);
        due("sling(6, true)", x.sling(6, true), 1);
        due("piece(0, 4)", x.piece(0, 4), 0);
        due("piece(1, 4)", x.piece(1, 4), 1);
        x = ten();
        for (int h = 1; h <= 10; h++) due("sling(" + h + ", true)", x.sling(h, true), 0);
        for (int k = 0; k < 10; k++) due("piece(" + k + ", 4)", x.piece(k, 4), 1);
    }

    @Edge(of = 10, words = "what is refused changes nothing (but THE TAPE, as told)")
    void p10RefusedChangesNothing() {
        changesNothing(EdgesPiecesTest::two, x -> {
            x.sling(0, true);
            x.sling(13, false);
            x.sling(1, true);
            x.sling(1, false);
        });
    }

    // ---- promise 11: piece.

    @Edge(of = 11, words = "BAD -1 (a number is not as told, there is no such FOOT, PIECE, IMAGE, SHEET)")
    void p11BadIsNoPiece() {
        int[] never = {-1, 10, 11, 32, 64, MIN, MAX};
        TwoOnWall none = new TwoOnWall();
        due("piece(0, 0) of none", none.piece(0, 0), BAD);
        TwoOnWall x = two();
        due("piece(1, 0)", x.piece(1, 0), 6);
        due("piece(2, 0)", x.piece(2, 0), BAD);
        TwoOnWall ten = ten();
        due("piece(9, 0)", ten.piece(9, 0), 10);
        for (int k : never) {
            due("piece(" + k + ", 0) of none", none.piece(k, 0), BAD);
            due("piece(" + k + ", 0) of two", x.piece(k, 0), BAD);
            due("piece(" + k + ", 0) of ten", ten.piece(k, 0), BAD);
        }
        x.strip();
        due("piece(0, 0) behind strip()", x.piece(0, 0), BAD);
    }

    @Edge(of = 11, words = "6 twice how far its SIDE is off (as DRAG counts it). BAD.")
    void p11BadIsNoWhat() {
        TwoOnWall x = two();
        int[] due = {6, 3, 10, 9, 1, 0, 0};
        for (int i = 0; i < 7; i++) due("piece(1, " + i + ")", x.piece(1, i), due[i]);
        int[] bad = {-1, 7, MIN, MAX};
        for (int what : bad) due("piece(1, " + what + ")", x.piece(1, what), BAD);
    }

    @Edge(of = 11, words = "Its CHANCE to be good: fits, nearly, of 20.")
    void p11ChanceFromZeroToTwenty() {
        int[][] chances = {{0, 20}, {20, 0}, {13, 12}};
        for (int[] of : chances) {
            TwoOnWall x = Check.wall("fits " + of[0] + " " + of[1] + ";rack 1 2;rack 3 1;at 1 1 crack 1;at 2 1 crack 2;at 3 1 crack 2;");
            x.put(1, 1);
            x.put(2, 1);
            x.put(3, 3);
            due("CHANCE of one that FITS", x.piece(0, 2), of[0]);
            due("CHANCE of one that is 1 less", x.piece(1, 2), of[1]);
            due("CHANCE of one that is 1 more", x.piece(2, 2), of[1]);
        }
    }

    @Edge(of = 11, words = "It HOLDS a PULL no greater than its size and holds, summed.")
    void p11HoldsFromOneToSeventy() {
        int[] holds = {0, 6, 60};
        for (int of : holds) {
            TwoOnWall x = Check.wall("holds " + of + ";rack 1 1;rack 10 1;at 1 1 crack 1;at 2 1 crack 10;");
            x.put(1, 1);
            x.put(2, 10);
            due("piece(0, 3)", x.piece(0, 3), of + 1);
            due("piece(1, 3)", x.piece(1, 3), of + 10);
        }
    }

    /** One PIECE between the ground (SIDE 5) and TOP. */
    private static TwoOnWall between(int side, int atTop) {
        TwoOnWall x = Check.wall("top 2;rack 1 1;at 1 1 crack 1 side " + side + ";at 2 1 side " + atTop + ";");
        x.put(1, 1);
        return x;
    }

    @Edge(of = 11, words = "(both beside it have a greater SIDE, or both a lesser one), by 2 or more each, and it has no SLING")
    void p11LiftedByTwoOrMoreEach() {
        for (int side = 0; side <= 9; side++) {
            for (int top = 0; top <= 9; top++) {
                boolean down = 5 - side >= 2 && top - side >= 2;
                boolean up = side - 5 >= 2 && side - top >= 2;
                TwoOnWall x = between(side, top);
                due("piece(0, 5) of " + side + ", " + top, x.piece(0, 5), down || up ? 1 : 0);
                x.sling(1, true);
                due("piece(0, 5) with a SLING", x.piece(0, 5), 0);
                x.sling(1, false);
                due("piece(0, 5) without one again", x.piece(0, 5), down || up ? 1 : 0);
            }
        }
    }

    @Edge(of = 11, words = "without sign, twice its SIDE less both; a long SLING halves it, divided down")
    void p11OffFromZeroToEighteen() {
        for (int side = 0; side <= 9; side++) {
            for (int top = 0; top <= 9; top++) {
                int off = 2 * side - 5 - top;
                int twice = off < 0 ? -off : off;
                TwoOnWall x = between(side, top);
                due("piece(0, 6) of " + side + ", " + top, x.piece(0, 6), twice);
                x.sling(1, true);
                due("piece(0, 6) with a SLING", x.piece(0, 6), (twice - twice % 2) / 2);
            }
        }
    }

    @Edge(of = 11, words = "THE ROPE goes from the ground (SIDE 5) through PIECES to TOP (its SIDE)")
    void p11BesideIsThePieceNextOnTheRope() {
        // Sides 5 (ground), 0, 9, 4 by PIECES, 9 at TOP; what has no PIECE does not count.
        TwoOnWall x = Check.wall("top 9;rack 1 5;at 1 1 side 9;at 2 1 crack 1 side 0;at 3 1 crack 1;at 5 1 crack 1 side 9;"
            + "at 8 1 crack 1 side 4;at 9 1 crack 1 side 9;");
        x.put(2, 1);
        x.put(5, 1);
        x.put(8, 1);
        int[] off = {14, 14, 10};
        for (int k = 0; k < 3; k++) due("piece(" + k + ", 6)", x.piece(k, 6), off[k]);
        for (int k = 0; k < 3; k++) due("piece(" + k + ", 5)", x.piece(k, 5), 1);
        x.put(9, 1);
        due("piece(3, 6) of one at TOP itself", x.piece(3, 6), 5);
        due("piece(3, 5) of one at TOP itself", x.piece(3, 5), 0);
        due("piece(2, 6), TOP beside it as a PIECE", x.piece(2, 6), 10);
    }

    // ---- promise 12: strip.

    @Edge(of = 12, words = "All PIECES go back: how many there were.")
    void p12NoneOneAndTen() {
        TwoOnWall x = Check.wall(TWELVE);
        due("strip() of none", x.strip(), 0);
        x.put(12, 2);
        due("strip() of one", x.strip(), 1);
        due("strip() of none", x.strip(), 0);
        due("count(4)", x.count(4), 15);
        x = ten();
        due("strip() of ten", x.strip(), 10);
        due("count(0)", x.count(0), 0);
        for (int s = 1; s <= 3; s++) due("rule(10 and " + s + ")", x.rule(10 + s), 5);
        for (int h = 1; h <= 12; h++) due("foot(" + h + ", 5)", x.foot(h, 5), NONE);
        due("put(12, 3)", x.put(12, 3), 0);
    }
}
