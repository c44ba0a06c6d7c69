/** The promises one by one: ordinary inputs, the edges that the document names, wrong inputs. */
public final class PromisesTest {
    private static final Check c = new Check("PromisesTest");
    private static final int MIN = Integer.MIN_VALUE, MAX = Integer.MAX_VALUE;

    /** Three pieces of a wall with one ledge (at 8) and one rest (at 10); no give, all hold. */
    private static final String WALL = "top 12;give 0;low 1;holds 40;rack 3 2;rack 5 1;at 3 2 crack 3;"
        + "at 6 4 crack 5 side 9;at 8 5 ledge;at 9 9 crack 3 side 1;at 10 1 rest;at 12 7 crack 4;";
    /** Twelve cracks and more pieces than a row takes. */
    private static final String CRACKS = "top 12;rack 1 5;rack 2 5;rack 3 5;at 1 1 crack 1;at 2 1 crack 1;at 3 1 crack 1;"
        + "at 4 1 crack 1;at 5 1 crack 2;at 6 1 crack 2;at 7 1 crack 2;at 8 1 crack 2;at 9 1 crack 3;at 10 1 crack 3;"
        + "at 11 1 crack 3;at 12 1 crack 3;";

    public static void main(String[] args) {
        p1();
        p2();
        p3();
        p4();
        p4Faults();
        p4Bounds();
        p4Stays();
        p5();
        p6();
        p7();
        p8();
        p9();
        p10();
        p11();
        p12();
        p13();
        p14();
        p15();
        p16();
        p17();
        p18();
        p19();
        p20();
        p21();
        p22();
        p23();
        p24();
        p25();
        p26();
        p27();
        p28();
        p29();
        p30();
        p31();
        p32();
        p33();
        p34();
        p35();
        p36();
        p37();
        p38();
        p39();
        c.end();
    }

    private static TwoOnWall withPieces() {
        TwoOnWall x = Check.wall(WALL);
        x.put(3, 3);
        x.put(6, 5);
        x.put(9, 3);
        return x;
    }

    private static void p1() {
        c.promise(1);
        TwoOnWall x = new TwoOnWall();
        int[] rules = {20, 200, 10, 40, 10, 18, 10, 6, 2};
        for (int i = 0; i < 9; i++) c.due("rule(" + i + ")", x.rule(i), rules[i]);
        for (int s = 1; s <= 10; s++) c.due("rule(10 and " + s + ")", x.rule(10 + s), 0);
        int[] foot = {1, 0, 0, 0, 5, -4};
        for (int h = 1; h <= 20; h += 19) {
            for (int i = 0; i < 6; i++) c.due("foot(" + h + ", " + i + ")", x.foot(h, i), foot[i]);
        }
        for (int i = 0; i < 8; i++) c.due("count(" + i + ")", x.count(i), 0);
        c.due("count(8)", x.count(8), -4);
        for (int k = 0; k < 4; k++) c.due("lay(" + k + ")", x.lay(k, 0, 1), -11);
        c.due("fault()", x.fault(), 0);
        c.due("torn()", x.torn(), 0);
        c.due("back(0)", x.back(0), -2);
        c.due("back(1)", x.back(1), -2);
        c.due("BAD", TwoOnWall.BAD, -1);
        c.due("STATE", TwoOnWall.STATE, -2);
        c.due("FULL", TwoOnWall.FULL, -3);
        c.due("NONE", TwoOnWall.NONE, -4);
    }

    private static void p2() {
        c.promise(2);
        TwoOnWall x = new TwoOnWall();
        for (int i = 1; i <= 50; i++) c.due("feed", x.feed(0x2020202020202020L), 8 * i);
        c.due("feed beyond 400", x.feed(0), -3);
        c.due("count(7)", x.count(7), 400);
        x.end(393);
        c.due("feed at 393", x.feed(0), -3);
        c.due("count(7)", x.count(7), 393);
        x.end(392);
        c.due("feed at 392", x.feed(0x2020202020202020L), 400);
        c.due("text() of 400 blanks", x.text(), 0);
        x.feed(0x6c6f772037203bffL); // "low 7 ;" and a byte that is no TOKEN
        c.due("the highest byte first", x.text(), -17);
        x.feed(0x6c6f772037203bffL);
        x.end(7);
        c.due("text()", x.text(), 1);
        c.due("rule(8)", x.rule(8), 7);
    }

    private static void p3() {
        c.promise(3);
        TwoOnWall x = new TwoOnWall();
        c.due("end(0)", x.end(0), 0);
        c.due("end(1)", x.end(1), -1);
        x.feed(0x6c6f7720363b3939L); // low 6;99
        c.due("end(-1)", x.end(-1), -1);
        c.due("end(9)", x.end(9), -1);
        c.due("end(MIN)", x.end(MIN), -1);
        c.due("count(7)", x.count(7), 8);
        c.due("end(8)", x.end(8), 8);
        c.due("end(6)", x.end(6), 8);
        c.due("end(7)", x.end(7), -1);
        c.due("count(7)", x.count(7), 6);
        c.due("text()", x.text(), 1);
        c.due("rule(8)", x.rule(8), 6);
    }

    private static void text(String text, int due, int fault) {
        TwoOnWall x = new TwoOnWall();
        Check.type(x, text);
        c.due("text() of " + text, x.text(), due);
        c.due("fault() of " + text, x.fault(), fault);
        c.due("count(7) behind " + text, x.count(7), 0);
    }

    private static void p4() {
        c.promise(4);
        text("", 0, 0);
        text("   ", 0, 0);
        text("at1 2crack3ledge rest side4;", 1, 0);
        text(" at  1   2 ; ", 1, 0);
        text("at 001 000 side 09;", 1, 0);
        text("at 40 1;top 40;", 2, 0);
        text("rack 1 0;rack 10 5;fits 0 20;strength 999;place 99;rope 60;give 50;holds 60;low 9;", 9, 0);
        TwoOnWall x = Check.wall("top 40;strength 7;place 8;rope 9;give 11;fits 12 13;holds 14;low 5;rack 1 2;rack 10 5;"
            + "at 40 9 side 0 rest crack 10 ledge;at 2 0;");
        int[] rules = {40, 7, 8, 9, 11, 12, 13, 14, 5};
        for (int i = 0; i < 9; i++) c.due("rule(" + i + ")", x.rule(i), rules[i]);
        c.due("rule(11)", x.rule(11), 2);
        c.due("rule(12)", x.rule(12), 0);
        c.due("rule(20)", x.rule(20), 5);
        int[] foot = {9, 10, 1, 1, 0, -4};
        for (int i = 0; i < 6; i++) c.due("foot(40, " + i + ")", x.foot(40, i), foot[i]);
        c.due("foot(2, 0)", x.foot(2, 0), 0);
        c.due("foot(1, 0)", x.foot(1, 0), 1);
        Check.type(x, "rack 10 5;at 40 1;top 40;");
        c.due("text() once more of the same FOOT and size", x.text(), 3);
        StringBuilder most = new StringBuilder("at 1 1;");
        for (int h = 2; h <= 9; h++) most.append("at ").append(h).append(" 1;");
        for (int h = 10; h <= 40; h++) most.append("at ").append(h).append(" 1;");
        most.append("top 40;");
        text(most.toString(), 41, 0);
    }

    /** Which FAULT is met first, and where. */
    private static void p4Faults() {
        text("top 1000;", -14, 1);
        text("top 0001;", -14, 1);
        text("top 99999999999999999999;", -14, 1);
        text("1000", -10, 1);
        text("top 5.", -15, 1);
        text("Top 5;", -10, 1);
        text("top\t5;", -13, 1);
        text("at 1 1 1000;", -17, 1);
        text("at 1 1 @;", -17, 1);
        text("at 1 1{;", -16, 1);
        text("at 1 1`;", -16, 1);
        text("at 1 1/;", -16, 1);
        text("at 1 1:;", -16, 1);
        text("low 1; \u00e9", -17, 1);
        text("low 1; \u0000", -17, 1);
        text("  ; ", -12, 2);
        text(" 5;", -11, 2);
        text("atat 1 1;", -10, 2);
        text("ledge;", -10, 2);
        text("tops 5;", -10, 2);
        text("to 5;", -10, 2);
        text("nearly 5;", -10, 2);
        text("z 5;", -10, 2);
        text("top", -13, 2);
        text("top  ", -15, 2);
        text("top 5", -15, 2);
        text("top 5 ", -16, 2);
        text("top ;", -14, 2);
        text("top a;", -14, 2);
        text("top 5 5;", -16, 2);
        text("top 5 low;", -16, 2);
        text("at 1;", -14, 2);
        text("at 1 1 2;", -17, 2);
        text("at 1 1 top 5;", -17, 2);
        text("at 1 1 crack;", -22, 2);
        text("at 1 1 crack ledge;", -23, 2);
        text("at 1 1 ledge", -22, 2);
        text("rack 1 1", -18, 2);
        text("fits 1;", -16, 2);
        text("fits 1 2 3;", -19, 2);
        text("at 1 1;at 1 1;", -20, 4);
        text("at 41 1;at 41 1", -13, 3);
        text("at 1 1;at 001 99;", -20, 4);
        text("rack 2 1;rack 2 9;", -24, 4);
        text("top 5;low 1;top 99;", -22, 4);
        text("fits 1 1;fits", -19, 4);
        text("at 1 1 ledge ledge;", -23, 4);
        text("at 1 1 rest crack 1 rest", -30, 4);
        text("at 1 1 side 1 side 10;", -24, 4);
        text("at 1 1 crack 1 crack 11;", -25, 4);
        text("at 21 1;", -18, 5);
        text("at 21 1; ", -19, 5);
        text("top 7;at 8 1;at 3 1;", -30, 5);
        text("at 8 1;top 7;", -23, 5);
        text("at 30 1;top 20;low 10;", -29, 3);
    }

    private static void p4Bounds() {
        String[] least = {"at 0 1;", "top 0;", "rack 0 1;", "strength 0;", "rope 0;", "at 1 1 crack 0;"};
        int[] atLeast = {-13, -14, -15, -19, -15, -23};
        for (int i = 0; i < least.length; i++) text(least[i], atLeast[i], 3);
        String[] most = {"at 41 1;", "at 1 10;", "at 1 1 crack 11;", "at 1 1 side 10;", "rack 11 1;", "rack 1 6;", "top 41;",
            "strength 1000;", "place 100;", "rope 61;", "give 51;", "fits 21 1;", "fits 1 21;", "holds 61;", "low 10;"};
        int[] atMost = {-13, -15, -23, -22, -15, -17, -14, -19, -16, -15, -15, -15, -17, -16, -14};
        for (int i = 0; i < most.length; i++) text(most[i], atMost[i], i == 7 ? 1 : 3);
        text("at 40 9 crack 10 side 9;top 40;strength 999;", 3, 0);
        text("at 1 0 crack 1 side 0;top 1;strength 1;place 0;rope 1;give 0;fits 0 0;holds 0;low 0;rack 1 0;", 10, 0);
    }

    /** A text that is taken tells all; one with a FAULT leaves all. */
    private static void p4Stays() {
        TwoOnWall x = withPieces();
        x.tried(0, true);
        x.image(0);
        x.image(1);
        x.sheet(0, 0, 3);
        Check.type(x, "top 5;give 1;at 1 1 ledge;x");
        c.due("text()", x.text(), -36);
        c.due("rule(0)", x.rule(0), 12);
        c.due("foot(1, 2)", x.foot(1, 2), 0);
        c.due("count(0)", x.count(0), 3);
        c.due("count(5)", x.count(5), 1);
        c.due("count(6)", x.count(6), 2);
        c.due("plan(0)", x.plan(0), 35);
        c.due("pitches(10)", x.pitches(10), 12);
        c.due("bolts(0)", x.bolts(0), 6);
        Check.type(x, "top 3;rack 1 1;low 5;fits 3 4;");
        c.due("text()", x.text(), 4);
        c.due("rule(4)", x.rule(4), 10);
        c.due("rule(5)", x.rule(5), 3);
        c.due("rule(6)", x.rule(6), 4);
        c.due("rule(13)", x.rule(13), 0);
        int[] counts = {0, 0, 0, 0, 1, 0, 0, 0, 3};
        for (int i = 0; i < 9; i++) c.due("count(" + i + ")", x.count(i), counts[i]);
        c.due("back(0)", x.back(0), -2);
        c.due("back(1)", x.back(1), -2);
        c.due("plan(0)", x.plan(0), 0);
        c.due("best(0)", x.best(0), 40);
        c.due("pitches(10)", x.pitches(10), 3);
        c.due("bolts(0)", x.bolts(0), 0);
        c.due("foot(3, 1)", x.foot(3, 1), 0);
        c.due("foot(3, 0)", x.foot(3, 0), 1);
        c.due("fall(3, 0, 4)", x.fall(3, 0, 4), 0);
    }

    private static void p5() {
        c.promise(5);
        TwoOnWall x = new TwoOnWall();
        Check.type(x, "top 41;");
        c.due("fault() before text()", x.fault(), 0);
        x.text();
        c.due("fault()", x.fault(), 3);
        c.due("fault() again", x.fault(), 3);
        x.text();
        c.due("fault() of an empty text", x.fault(), 0);
    }

    private static void p6() {
        c.promise(6);
        TwoOnWall x = withPieces();
        c.due("rule(13)", x.rule(13), 0);
        c.due("rule(15)", x.rule(15), 0);
        x.take(3);
        c.due("rule(13)", x.rule(13), 1);
        int[] bad = {-1, 9, 10, 21, MIN, MAX};
        for (int what : bad) c.due("rule(" + what + ")", x.rule(what), -1);
    }

    private static void p7() {
        c.promise(7);
        TwoOnWall x = withPieces();
        int[] six = {4, 5, 0, 0, 9, 1};
        for (int i = 0; i < 6; i++) c.due("foot(6, " + i + ")", x.foot(6, i), six[i]);
        c.due("foot(8, 2)", x.foot(8, 2), 1);
        c.due("foot(10, 3)", x.foot(10, 3), 1);
        c.due("foot(12, 5)", x.foot(12, 5), -4);
        int[] feet = {0, 13, -1, 40, 41, MIN, MAX};
        for (int h : feet) c.due("foot(" + h + ", 0)", x.foot(h, 0), -1);
        int[] bad = {-1, 6, MIN, MAX};
        for (int what : bad) c.due("foot(1, " + what + ")", x.foot(1, what), -1);
    }

    private static void p8() {
        c.promise(8);
        TwoOnWall x = Check.wall(WALL);
        c.due("put(9, 3)", x.put(9, 3), 0);
        c.due("put(3, 3)", x.put(3, 3), 0);
        c.due("put(6, 5)", x.put(6, 5), 1);
        c.due("piece(2, 0)", x.piece(2, 0), 9);
        int[] feet = {0, 13, -1, 41, MIN, MAX};
        for (int h : feet) c.due("put(" + h + ", 3)", x.put(h, 3), -1);
        int[] sizes = {0, 11, -1, MIN, MAX};
        for (int s : sizes) c.due("put(12, " + s + ")", x.put(12, s), -1);
        c.due("put where no CRACK is", x.put(1, 3), -2);
        c.due("put where one is", x.put(9, 3), -2);
        c.due("put of 2 less", x.put(12, 2), -2);
        c.due("put of 2 more", x.put(12, 6), -2);
        c.due("put that THE RACK has not", x.put(12, 4), -4);
        c.due("put of 1 less that it has not", x.put(12, 3), -4);
        x.take(3);
        c.due("put of 1 less", x.put(12, 3), 2);
        c.due("rule(13)", x.rule(13), 0);
        x.take(6);
        c.due("put of 1 more", x.put(12, 5), -2);
        x.take(12);
        c.due("put of 1 more", x.put(12, 5), 1);
        x = Check.wall(CRACKS);
        for (int h = 1; h <= 10; h++) c.due("put(" + h + ")", x.put(h, x.foot(h, 1)), h - 1);
        c.due("put of the eleventh", x.put(11, 3), -3);
        c.due("put of the eleventh that THE RACK has not", x.put(12, 4), -3);
        c.due("put of the eleventh that fits not", x.put(12, 5), -2);
        c.due("count(0)", x.count(0), 10);
        c.due("count(4)", x.count(4), 5);
    }

    private static void p9() {
        c.promise(9);
        TwoOnWall x = withPieces();
        x.sling(9, true);
        int[] feet = {0, 13, MIN, MAX};
        for (int h : feet) c.due("take(" + h + ")", x.take(h), -1);
        c.due("take(12)", x.take(12), -4);
        c.due("take(6)", x.take(6), 5);
        c.due("take(6)", x.take(6), -4);
        c.due("rule(15)", x.rule(15), 1);
        c.due("piece(0, 0)", x.piece(0, 0), 3);
        c.due("piece(1, 0)", x.piece(1, 0), 9);
        c.due("piece(1, 4)", x.piece(1, 4), 1);
        c.due("piece(0, 4)", x.piece(0, 4), 0);
        c.due("take(9)", x.take(9), 3);
        c.due("put(9, 3)", x.put(9, 3), 1);
        c.due("a new one has no SLING", x.piece(1, 4), 0);
    }

    private static void p10() {
        c.promise(10);
        TwoOnWall x = withPieces();
        c.due("sling(6, true)", x.sling(6, true), 0);
        c.due("sling(6, true)", x.sling(6, true), 1);
        c.due("piece(1, 4)", x.piece(1, 4), 1);
        c.due("sling(6, false)", x.sling(6, false), 1);
        c.due("sling(6, false)", x.sling(6, false), 0);
        c.due("sling(12, true)", x.sling(12, true), -4);
        int[] feet = {0, 13, MIN, MAX};
        for (int h : feet) c.due("sling(" + h + ", true)", x.sling(h, true), -1);
    }

    private static void p11() {
        c.promise(11);
        TwoOnWall x = withPieces();
        int[] middle = {6, 5, 18, 45, 0, 1, 12};
        for (int i = 0; i < 7; i++) c.due("piece(1, " + i + ")", x.piece(1, i), middle[i]);
        // The rope goes by sides 5, 5, 9, 1, 5.
        c.due("piece(0, 6)", x.piece(0, 6), 4);
        c.due("piece(2, 6)", x.piece(2, 6), 12);
        c.due("piece(0, 5)", x.piece(0, 5), 0);
        c.due("piece(2, 5)", x.piece(2, 5), 1);
        x.sling(6, true);
        c.due("piece(1, 5) with a SLING", x.piece(1, 5), 0);
        c.due("piece(1, 6) with a SLING", x.piece(1, 6), 6);
        x.take(9);
        x.put(12, 3);
        c.due("CHANCE of one that fits nearly", x.piece(2, 2), 10);
        c.due("piece(2, 6) at TOP", x.piece(2, 6), 4);
        int[] ks = {-1, 3, 10, MIN, MAX};
        for (int k : ks) c.due("piece(" + k + ", 0)", x.piece(k, 0), -1);
        int[] bad = {-1, 7, MIN, MAX};
        for (int what : bad) c.due("piece(0, " + what + ")", x.piece(0, what), -1);
        // By 2 it is LIFTED, by 1 not; a half of an odd number is divided down.
        x = Check.wall("top 3;rack 1 3;at 1 1 crack 1 side 3;at 2 1 crack 1 side 6;at 3 1 crack 1 side 5;");
        x.put(1, 1);
        x.put(2, 1);
        c.due("piece(0, 5)", x.piece(0, 5), 1);
        c.due("piece(1, 5)", x.piece(1, 5), 0);
        c.due("piece(0, 6)", x.piece(0, 6), 5);
        x.sling(1, true);
        c.due("piece(0, 6)", x.piece(0, 6), 2);
        c.due("piece(1, 6)", x.piece(1, 6), 4);
    }

    private static void p12() {
        c.promise(12);
        TwoOnWall x = withPieces();
        x.sling(3, true);
        c.due("strip()", x.strip(), 3);
        c.due("strip()", x.strip(), 0);
        c.due("rule(13)", x.rule(13), 2);
        c.due("rule(15)", x.rule(15), 1);
        c.due("foot(3, 5)", x.foot(3, 5), -4);
    }

    private static void falls(TwoOnWall x, int h, int good, int... due) {
        for (int i = 0; i < 6; i++) c.due("fall(" + h + ", " + good + ", " + i + ")", x.fall(h, good, i), due[i]);
    }

    private static void p13() {
        c.promise(13);
        TwoOnWall x = withPieces();
        falls(x, 12, 7, 6, 2, 7, 0, 8, 4);
        falls(x, 12, 3, 0, 1, 12, 4, 8, 4);
        falls(x, 12, 0, 0, -4, 0, 7, 8, 4);
        falls(x, 9, 7, 9, 2, 2, 0, -4, 0);
        falls(x, 9, 3, 3, 1, 8, 4, 8, 1);
        falls(x, 8, 7, 4, 1, 7, 0, -4, 0);
        falls(x, 8, 1, 0, 0, 14, 2, 0, 8);
        falls(x, 2, 7, 0, -4, 0, 0, 0, 2);
        // Of give 50 a fall from 10 goes 5 further: by 7 the pull is 9, what a piece of 3 holds with 6, not with 5.
        x = Check.wall("top 10;give 50;holds 6;rack 3 1;at 9 1 crack 3;at 3 1 ledge;at 2 1 ledge;");
        x.put(9, 3);
        falls(x, 10, 1, 3, 0, 9, 0, 3, 7);
        falls(x, 9, 1, 5, 0, 6, 0, -4, 0);
        falls(x, 10, 0, 0, -4, 0, 1, 3, 7);
        x = Check.wall("top 10;give 50;holds 5;rack 3 1;at 9 1 crack 3;");
        x.put(9, 3);
        falls(x, 10, 1, 0, -4, 0, 1, 0, 10);
        x = withPieces();
        int[] goods = {8, -1, MIN, MAX, 16};
        for (int good : goods) c.due("fall(5, " + good + ", 0)", x.fall(5, good, 0), -1);
        int[] feet = {0, 13, MIN, MAX};
        for (int h : feet) c.due("fall(" + h + ", 0, 0)", x.fall(h, 0, 0), -1);
        int[] bad = {-1, 6, MIN, MAX};
        for (int what : bad) c.due("fall(1, 0, " + what + ")", x.fall(1, 0, what), -1);
    }

    private static void part(String call, long numerator, long denominator, long due, long by) {
        c.due(call + " 0", numerator, due);
        c.due(call + " 1", denominator, by);
    }

    private static void p14() {
        c.promise(14);
        TwoOnWall x = Check.wall("top 10;give 0;holds 40;fits 18 10;rack 1 2;rack 2 2;at 3 1 crack 1;at 5 1 crack 1;at 6 1 crack 1;");
        x.put(3, 2);
        x.put(5, 1);
        x.put(6, 1);
        // From 6: held there by 18 of 20; else from 5 at 4; else from 3 at 0; else at 0.
        part("harm(6, 6)", x.harm(6, 6, 0), x.harm(6, 6, 1), 1, 100);
        part("harm(6, 7)", x.harm(6, 7, 0), x.harm(6, 7, 1), 0, 1);
        // From 7: 5, 3, below 0.
        part("harm(7, 7)", x.harm(7, 7, 0), x.harm(7, 7, 1), 1, 100);
        // From 5: 5, 1, 0: of 20 and 20 it is 2 by 10.
        part("harm(5, 1)", x.harm(5, 1, 0), x.harm(5, 1, 1), 1, 20);
        part("harm(2, 2)", x.harm(2, 2, 0), x.harm(2, 2, 1), 1, 1);
        int[] ds = {0, 41, MIN, MAX};
        for (int d : ds) c.due("harm(5, " + d + ", 0)", x.harm(5, d, 0), -1);
        int[] feet = {0, 11, MIN, MAX};
        for (int h : feet) c.due("harm(" + h + ", 1, 0)", x.harm(h, 1, 0), -1);
        int[] bad = {-1, 2, MIN, MAX};
        for (int what : bad) c.due("harm(1, 1, " + what + ")", x.harm(1, 1, what), -1);
        c.due("harm(10, 40, 0)", x.harm(10, 40, 0), 0);
        // Ten of which each is good by 1 of 20: the denominator is 20 to the 10th.
        StringBuilder ten = new StringBuilder("fits 1 1;holds 60;give 0;rack 1 5;rack 2 5;");
        for (int h = 11; h <= 20; h++) ten.append("at ").append(h).append(" 1 crack ").append(h < 16 ? 1 : 2).append(";");
        x = Check.wall(ten.toString());
        for (int h = 11; h <= 20; h++) x.put(h, x.foot(h, 1));
        part("harm(20, 20)", x.harm(20, 20, 0), x.harm(20, 20, 1), 6131066257801L, 10240000000000L);
    }

    private static void p15() {
        c.promise(15);
        TwoOnWall x = Check.wall("top 6;give 0;holds 40;fits 18 10;rack 1 2;rack 2 1;at 2 1 crack 1;at 3 1 crack 1;at 4 1 ledge;");
        x.put(3, 1);
        x.put(2, 2);
        // From 3: 0; else (2 of 20) from 2 at 1 (10 of 20), 3 at the ground.
        part("mean(3)", x.mean(3, 0), x.mean(3, 1), 3, 20);
        part("mean(5)", x.mean(5, 0), x.mean(5, 1), 1, 1);
        part("mean(4)", x.mean(4, 0), x.mean(4, 1), 2, 5);
        part("mean(1)", x.mean(1, 0), x.mean(1, 1), 1, 1);
        x = Check.wall("top 1;give 0;fits 20 0;rack 1 1;at 1 1 crack 1;");
        x.put(1, 1);
        part("mean(1) of one that is good for certain", x.mean(1, 0), x.mean(1, 1), 0, 1);
        int[] feet = {0, 2, MIN, MAX};
        for (int h : feet) c.due("mean(" + h + ", 0)", x.mean(h, 0), -1);
        int[] bad = {-1, 2, MIN, MAX};
        for (int what : bad) c.due("mean(1, " + what + ")", x.mean(1, what), -1);
    }

    private static void p16() {
        c.promise(16);
        TwoOnWall x = withPieces();
        c.due("risk(0)", x.risk(0), 35);
        c.due("risk(1)", x.risk(1), 8);
        c.due("risk(2)", x.risk(2), -4);
        c.due("risk(3)", x.risk(3), 12);
        c.due("risk(4)", x.risk(4), 4);
        // A new wall: 3 and more and so on up to 20 at the ground.
        x = new TwoOnWall();
        c.due("risk(0)", x.risk(0), 207);
        c.due("risk(1)", x.risk(1), 20);
        c.due("risk(3)", x.risk(3), 20);
        c.due("risk(4)", x.risk(4), 20);
        // FEET up to low count for no RISK, but for the greatest HARM.
        x = Check.wall("top 4;low 9;strength 7;place 3;rack 1 2;give 0;holds 60;at 1 2 crack 1;at 2 2;at 3 3 crack 1 rest;at 4 1;");
        c.due("risk(0)", x.risk(0), 0);
        c.due("risk(3)", x.risk(3), 4);
        c.due("risk(1)", x.risk(1), 1);
        c.due("risk(2)", x.risk(2), -4);
        x.put(1, 1);
        c.due("risk(2)", x.risk(2), 3);
        c.due("risk(1)", x.risk(1), 1);
        c.due("risk(3)", x.risk(3), 4);
        x.put(3, 1);
        c.due("risk(2) behind HARD and the PIECE", x.risk(2), 3);
        c.due("risk(1) behind a REST", x.risk(1), 1);
        // From 2 and 3: 2 and 0; from 4: 2.
        c.due("risk(3)", x.risk(3), 2);
        c.due("risk(4)", x.risk(4), 2);
        x = Check.wall("top 5;strength 5;");
        c.due("as much as strength is not TOO MUCH", x.risk(2), -4);
        x = Check.wall("top 5;strength 4;at 5 1 rest;");
        c.due("TOO MUCH at the REST itself", x.risk(2), 5);
        c.due("risk(1) at a REST at TOP", x.risk(1), 0);
        x = Check.wall("top 1;give 0;rack 1 1;at 1 1 crack 1;");
        c.due("risk(3)", x.risk(3), 1);
        x.put(1, 1);
        c.due("no HARM anywhere", x.risk(3), -4);
        c.due("risk(4)", x.risk(4), 0);
        x = Check.wall("top 3;low 0;at 3 9;");
        c.due("risk(0) from 1 on", x.risk(0), 30);
        x = Check.wall("top 6;low 0;at 3 1 ledge;");
        c.due("of several the least", x.risk(3), 3);
        int[] bad = {-1, 5, MIN, MAX};
        for (int what : bad) c.due("risk(" + what + ")", x.risk(what), -1);
    }

    private static void p17() {
        c.promise(17);
        TwoOnWall x = withPieces();
        c.due("needless()", x.needless(), 0);
        // Ledges all the way up: nothing that holds at a foot but there itself.
        x = Check.wall("top 4;low 0;give 0;holds 60;rack 1 3;at 1 1 crack 1 ledge;at 2 1 crack 1 ledge;at 3 0 crack 1 ledge;");
        x.put(1, 1);
        x.put(2, 1);
        x.put(3, 1);
        c.due("needless()", x.needless(), 4);
        c.due("needless() of none", new TwoOnWall().needless(), 0);
        // A piece that leads to more harm: it breaks no fall, but another would.
        x = Check.wall("top 3;low 2;give 0;holds 0;rack 1 1;at 1 1 crack 1;");
        x.put(1, 1);
        c.due("needless() of one that can not hold", x.needless(), 1);
    }

    private static void p18() {
        c.promise(18);
        TwoOnWall x = Check.wall(WALL);
        int[] feet = {3, 6, 9};
        c.due("plan(0)", x.plan(0), 35);
        c.due("plan(1)", x.plan(1), 3);
        for (int i = 0; i < 3; i++) c.due("plan(10 and " + i + ")", x.plan(10 + i), feet[i]);
        c.due("plan(13)", x.plan(13), -1);
        x.put(6, 5);
        x.put(12, 3);
        c.due("plan(1) as if all were in THE RACK", x.plan(1), 3);
        int[] bad = {-1, 2, 9, 20, MIN, MAX};
        for (int what : bad) c.due("plan(" + what + ")", x.plan(what), -1);
        // Three cracks, two pieces of the size; only falls from 4 on count, and all are alike for them.
        x = Check.wall("top 4;low 3;give 0;holds 60;rack 1 2;at 1 1 crack 1;at 2 1 crack 1;at 3 1 crack 1 ledge;");
        c.due("plan(0) that no piece makes less", x.plan(0), 1);
        c.due("plan(1), the fewest", x.plan(1), 0);
        c.due("plan(10)", x.plan(10), -1);
        x = Check.wall("top 3;low 2;give 0;holds 60;rack 1 3;at 2 1 crack 1;at 3 1 crack 1;");
        c.due("plan(0)", x.plan(0), 0);
        c.due("plan(1)", x.plan(1), 1);
        c.due("plan(10), the least bits", x.plan(10), 2);
        // Either of 2 and 3, and of 7 and 8, does; one piece of each size: 2 and 8 (bits 9), 3 and 7 (bits 6).
        x = Check.wall("top 8;low 0;give 0;holds 60;rack 1 1;rack 2 1;at 1 0;at 2 0 crack 1;at 3 1 crack 2;"
            + "at 4 0;at 5 0;at 6 0;at 7 0 crack 1;at 8 1 crack 2;");
        c.due("plan(0)", x.plan(0), 0);
        c.due("plan(10), the least bits", x.plan(10), 3);
        c.due("plan(11), the least bits", x.plan(11), 7);
        x = Check.wall("top 3;low 2;give 0;rack 10 1;at 2 1 crack 10;");
        c.due("plan(1) of size 10", x.plan(1), 1);
        // Too much: at 2 nothing is left for a piece.
        x = Check.wall("top 3;low 2;strength 3;place 1;rack 1 3;at 2 1 crack 1;at 3 1 crack 1;");
        c.due("plan(0)", x.plan(0), 3);
        c.due("plan(1)", x.plan(1), 0);
        x = Check.wall("top 3;strength 2;");
        c.due("each is TOO MUCH", x.plan(0), -4);
        c.due("each is TOO MUCH", x.plan(1), -4);
        c.due("what is not, and BAD fits first", x.plan(2), -1);
        c.due("what is not, and BAD fits first", x.plan(10), -1);
        // The eleventh and twelfth CRACK are for no PLAN.
        x = Check.wall(CRACKS + "low 9;give 0;holds 60;place 0;");
        c.due("plan(0)", x.plan(0), 0);
        c.due("plan(1)", x.plan(1), 1);
        c.due("plan(10)", x.plan(10), 7);
        x = Check.wall("top 11;low 9;give 0;holds 60;rack 1 5;at 1 1 crack 3;at 2 1 crack 3;at 3 1 crack 3;at 4 1 crack 3;"
            + "at 5 1 crack 3;at 6 1 crack 3;at 7 1 crack 3;at 8 1 crack 3;at 9 1 crack 3;at 10 1 crack 3;at 11 1 crack 1;");
        c.due("plan(0)", x.plan(0), 21);
        c.due("plan(1)", x.plan(1), 0);
        c.due("keep(1, 1)", x.keep(1, 1), 0);
    }

    private static void p19() {
        c.promise(19);
        TwoOnWall x = Check.wall(WALL);
        c.due("keep(3, 0)", x.keep(3, 0), 35);
        c.due("keep(3, 1)", x.keep(3, 1), 3);
        c.due("keep(3, 2)", x.keep(3, 2), 0);
        c.due("keep(4, 1): at 6", x.keep(4, 1), 1);
        c.due("keep(6, 1): at 6", x.keep(6, 1), 1);
        c.due("keep(7, 1): at 9", x.keep(7, 1), 1);
        c.due("keep(10, 1): THE RACK has none", x.keep(10, 1), 0);
        c.due("keep(40, 1)", x.keep(40, 1), 0);
        x.put(3, 3);
        x.put(9, 3);
        c.due("keep(3, 1) as if all were in THE RACK", x.keep(3, 1), 3);
        x = Check.wall(CRACKS + "strength 20;place 1;");
        c.due("keep(1, 1): the lowest ten", x.keep(1, 1), 10);
        c.due("keep(1, 2)", x.keep(1, 2), 1);
        c.due("keep(2, 2)", x.keep(2, 2), 0);
        c.due("keep(2, 1)", x.keep(2, 1), 5);
        int[] rs = {0, 41, -1, MIN, MAX};
        for (int r : rs) c.due("keep(" + r + ", 0)", x.keep(r, 0), -1);
        int[] bad = {-1, 3, MIN, MAX};
        for (int what : bad) c.due("keep(1, " + what + ")", x.keep(1, what), -1);
    }

    private static void p20() {
        c.promise(20);
        TwoOnWall x = Check.wall(WALL);
        c.due("best(0)", x.best(0), 3);
        c.due("best(1)", x.best(1), 35);
        c.due("best(2)", x.best(2), 0);
        // Strength for one piece only: rule 1 is too much, rule 2 comes to the worse crack.
        x = Check.wall("top 3;low 2;give 0;holds 60;strength 4;place 1;rack 1 1;rack 2 1;at 1 1 crack 1;at 2 1 crack 2;");
        c.due("keep(1, 2)", x.keep(1, 2), 1);
        c.due("best(0)", x.best(0), 2);
        c.due("best(1)", x.best(1), 0);
        x = Check.wall("top 4;low 3;give 0;holds 60;strength 5;place 1;rack 1 2;at 1 1 crack 1;at 3 1 crack 1 ledge;at 4 3 crack 1;");
        c.due("each is TOO MUCH", x.best(0), -4);
        x = Check.wall("top 4;low 3;give 0;holds 60;strength 5;place 2;rack 1 1;rack 2 1;at 1 1 crack 1 ledge;at 2 1 crack 2;at 3 1 ledge;");
        c.due("best(0)", x.best(0), 40);
        c.due("best(2)", x.best(2), 0);
        x = Check.wall("top 5;low 4;give 0;holds 60;rack 1 1;at 2 1 crack 1;at 4 1 crack 1;");
        c.due("keep(2, 0)", x.keep(2, 0), 5);
        c.due("best(0)", x.best(0), 4);
        c.due("best(1)", x.best(1), 0);
        x = Check.wall("top 7;low 6;give 0;holds 60;rack 1 1;rack 2 1;at 2 1 crack 2;at 3 1 crack 1;at 5 1 crack 1;place 3;strength 11;");
        c.due("plan(0)", x.plan(0), 0);
        c.due("best(0)", x.best(0), 5);
        // Every rule takes the lowest crack (2 is as r or more above the ground), the plan waits.
        x = Check.wall("top 6;low 5;give 0;holds 60;rack 1 1;at 2 1 crack 1;at 3 9 ledge;at 5 9 ledge;");
        c.due("plan(0)", x.plan(0), 1);
        c.due("best(2)", x.best(2), 0);
        x = Check.wall("top 40;strength 39;place 0;rack 1 1;at 1 1 crack 1;");
        c.due("PLAN is TOO MUCH", x.best(1), -4);
        // Each rule puts a piece at 40, which is TOO MUCH; the plan puts none. A new wall is looked at anew.
        x = Check.wall("top 3;");
        c.due("best(1)", x.best(1), 3);
        Check.type(x, "top 40;strength 45;place 10;rack 1 1;at 40 1 crack 1;");
        x.text();
        c.due("plan(1)", x.plan(1), 0);
        c.due("best(0)", x.best(0), -4);
        Check.type(x, "top 4;");
        x.text();
        c.due("best(0)", x.best(0), 40);
        c.due("best(1)", x.best(1), 7);
        int[] bad = {-1, 3, MIN, MAX};
        for (int what : bad) c.due("best(" + what + ")", x.best(what), -1);
    }

    private static void p21() {
        c.promise(21);
        TwoOnWall x = Check.wall(WALL);
        x.put(12, 3);
        x.put(6, 5);
        x.sling(6, true);
        c.due("adopt()", x.adopt(), 3);
        int[] feet = {3, 6, 9};
        for (int i = 0; i < 3; i++) c.due("piece(" + i + ", 0)", x.piece(i, 0), feet[i]);
        c.due("piece(1, 1)", x.piece(1, 1), 5);
        c.due("piece(1, 4)", x.piece(1, 4), 0);
        c.due("rule(13)", x.rule(13), 0);
        c.due("risk(0)", x.risk(0), 35);
        x = Check.wall("top 3;strength 2;rack 1 1;at 1 1 crack 1;");
        x.put(1, 1);
        c.due("adopt() if each is TOO MUCH", x.adopt(), -4);
        c.due("count(0)", x.count(0), 1);
    }

    private static void p22() {
        c.promise(22);
        TwoOnWall x = withPieces();
        c.due("drag(0)", x.drag(0), 28);
        c.due("drag(1)", x.drag(1), 6);
        c.due("drag(2)", x.drag(2), 14);
        x.sling(6, true);
        c.due("drag(0)", x.drag(0), 22);
        c.due("drag(1)", x.drag(1), 4);
        x.take(9);
        x.put(12, 3);
        c.due("drag(0) with a PIECE at TOP", x.drag(0), 4 + 4 + 4);
        x.strip();
        c.due("drag(0)", x.drag(0), 0);
        c.due("drag(1)", x.drag(1), 0);
        c.due("drag(2)", x.drag(2), 12);
        int[] bad = {-1, 3, MIN, MAX};
        for (int what : bad) c.due("drag(" + what + ")", x.drag(what), -1);
    }

    private static void p23() {
        c.promise(23);
        TwoOnWall x = withPieces();
        x.sling(3, true);
        int[] least = {28, 22, 16, 14, 14};
        int[] bits = {0, 2, 6, 7, 7};
        for (int n = 0; n < 5; n++) {
            c.due("slings(" + n + ", 0)", x.slings(n, 0), least[n]);
            c.due("slings(" + n + ", 1)", x.slings(n, 1), bits[n]);
        }
        c.due("slings(10, 1)", x.slings(10, 1), 7);
        c.due("SLINGS stay", x.piece(0, 4), 1);
        // Sides 5, 5, 5 and 6 at TOP: only the upper one is off, by 1, and a SLING makes that 0.
        x = Check.wall("top 3;rack 1 2;at 1 1 crack 1;at 2 1 crack 1;at 3 1 side 6;");
        x.put(1, 1);
        x.put(2, 1);
        c.due("slings(2, 0)", x.slings(2, 0), 0);
        c.due("slings(2, 1), the fewest", x.slings(2, 1), 2);
        // They are off by 1 and by 2: a SLING saves 1 at either.
        x = Check.wall("top 3;rack 1 2;at 1 1 crack 1;at 2 1 crack 1 side 4;at 3 1 side 1;");
        x.put(1, 1);
        x.put(2, 1);
        c.due("slings(1, 0)", x.slings(1, 0), 2);
        c.due("slings(1, 1), the least", x.slings(1, 1), 1);
        int[] ns = {-1, 11, MIN, MAX};
        for (int n : ns) c.due("slings(" + n + ", 0)", x.slings(n, 0), -1);
        int[] bad = {-1, 2, MIN, MAX};
        for (int what : bad) c.due("slings(1, " + what + ")", x.slings(1, what), -1);
    }

    private static void p24() {
        c.promise(24);
        TwoOnWall x = Check.wall("top 40;rope 10;at 8 1 ledge;at 15 1 rest;at 17 9 ledge;at 25 0 rest;at 34 1 ledge;");
        int[] ends = {8, 15, 25, 34, 40};
        c.due("pitches(0)", x.pitches(0), 5);
        for (int i = 0; i < 5; i++) c.due("pitches(10 and " + i + ")", x.pitches(10 + i), ends[i]);
        int[] bad = {-1, 1, 9, 15, 50, MIN, MAX};
        for (int what : bad) c.due("pitches(" + what + ")", x.pitches(what), -1);
        x = Check.wall("top 10;rope 5;at 5 1 ledge;at 4 1 rest;");
        c.due("pitches(0)", x.pitches(0), 2);
        c.due("pitches(10)", x.pitches(10), 5);
        x = Check.wall("top 10;rope 4;at 5 1 ledge;");
        c.due("pitches(0)", x.pitches(0), -4);
        c.due("pitches(1)", x.pitches(1), -1);
        c.due("what is not, and BAD fits first", x.pitches(10), -1);
        x = Check.wall("top 40;rope 40;");
        c.due("pitches(0)", x.pitches(0), 1);
        c.due("pitches(10)", x.pitches(10), 40);
    }

    private static void p25() {
        c.promise(25);
        // Pitches of 4 and 9 and 1.
        String text = "top 6;rope 2;at 1 1;at 2 3 ledge;at 3 2;at 4 7 rest;at 5 0;at 6 1;";
        TwoOnWall x = Check.wall(text);
        c.due("turns, 0 first: 2 and 3 and 1", x.leads(2, 3, true, 0), 6);
        c.due("turns, 0 first", x.leads(2, 3, true, 10), 0);
        c.due("turns, 0 first", x.leads(2, 3, true, 11), 1);
        c.due("turns, 0 first", x.leads(2, 3, true, 12), 0);
        c.due("turns, 1 first: 2 and 3 and 1", x.leads(3, 2, true, 0), 6);
        c.due("turns, 1 first", x.leads(3, 2, true, 10), 1);
        c.due("turns, 1 first", x.leads(3, 2, true, 11), 0);
        c.due("turns, alike", x.leads(4, 4, true, 10), 0);
        c.due("no turns: 2 and 3 and 1", x.leads(2, 3, false, 0), 6);
        c.due("no turns, alike for both", x.leads(2, 3, false, 10), 0);
        c.due("no turns", x.leads(2, 3, false, 11), 1);
        c.due("no turns: 2 and 5 and 1", x.leads(1, 2, false, 0), 8);
        c.due("no turns", x.leads(1, 2, false, 10), 1);
        c.due("no turns, 0 is better", x.leads(2, 1, false, 11), 0);
        c.due("leads(9, 9, false, 0)", x.leads(9, 9, false, 0), 3);
        int[] bad = {-1, 1, 9, 13, MIN, MAX};
        for (int what : bad) c.due("leads(1, 1, true, " + what + ")", x.leads(1, 1, true, what), -1);
        int[] good = {0, 10, -1, MIN, MAX};
        for (int a : good) {
            c.due("leads(" + a + ", 1, true, 0)", x.leads(a, 1, true, 0), -1);
            c.due("leads(1, " + a + ", true, 0)", x.leads(1, a, true, 0), -1);
        }
        x = Check.wall("top 10;rope 4;");
        c.due("leads(1, 1, true, 0)", x.leads(1, 1, true, 0), -4);
        c.due("leads(0, 1, true, 0)", x.leads(0, 1, true, 0), -1);
    }

    private static void p26() {
        c.promise(26);
        TwoOnWall x = Check.wall("top 12;rope 9;at 4 1 rest;at 8 1 ledge;");
        int[] left = {0, 2, 2, 2, 1, 3, 3, 3, 2, 4, 4, 4, 3};
        for (int h = 0; h <= 12; h++) c.due("down(" + h + ")", x.down(h), left[h]);
        int[] feet = {-1, 13, MIN, MAX};
        for (int h : feet) c.due("down(" + h + ")", x.down(h), -1);
        x = Check.wall("top 12;rope 7;at 4 1 rest;at 3 1 ledge;at 9 1 ledge;");
        c.due("down(12)", x.down(12), -4);
        c.due("down(9)", x.down(9), -4);
        c.due("down(7)", x.down(7), 4);
        c.due("down(6)", x.down(6), 3);
        c.due("down(4)", x.down(4), 2);
        x = Check.wall("top 40;rope 60;at 10 1 rest;");
        c.due("down(40)", x.down(40), 2);
        c.due("down(39)", x.down(39), 3);
        c.due("down(30)", x.down(30), 2);
        x = Check.wall("top 3;rope 1;");
        c.due("down(1)", x.down(1), -4);
        c.due("down(0)", x.down(0), 0);
    }

    private static void p27() {
        c.promise(27);
        TwoOnWall x = new TwoOnWall();
        c.due("tried(0, true)", x.tried(0, true), 1);
        c.due("tried(1, true)", x.tried(1, true), 1);
        c.due("tried(0, false)", x.tried(0, false), 2);
        c.due("tried(2, true)", x.tried(2, true), -1);
        c.due("tried(-1, true)", x.tried(-1, true), -1);
        c.due("count(5)", x.count(5), 3);
        for (int i = 4; i <= 999; i++) x.tried(i & 1, true);
        c.due("count(5)", x.count(5), 999);
        c.due("tried(0, true)", x.tried(0, true), -3);
        c.due("tried(1, false)", x.tried(1, false), -3);
        c.due("tried(2, false)", x.tried(2, false), -1);
        c.due("count(5)", x.count(5), 999);
    }

    private static void p28() {
        c.promise(28);
        TwoOnWall x = new TwoOnWall();
        c.due("eye(0, 0)", x.eye(0, 0), -4);
        for (int i = 0; i < 6; i++) x.tried(0, i < 4);
        c.due("eye(0, 0)", x.eye(0, 0), 2);
        c.due("eye(0, 1)", x.eye(0, 1), 3);
        c.due("eye(1, 1)", x.eye(1, 1), -4);
        x.tried(1, false);
        x.tried(1, false);
        c.due("eye(1, 0)", x.eye(1, 0), 0);
        c.due("eye(1, 1)", x.eye(1, 1), 1);
        int[] bad = {-1, 2, MIN, MAX};
        for (int i : bad) {
            c.due("eye(" + i + ", 0)", x.eye(i, 0), -1);
            c.due("eye(0, " + i + ")", x.eye(0, i), -1);
        }
    }

    private static void p29() {
        c.promise(29);
        TwoOnWall x = withPieces();
        c.due("learn() of nothing", x.learn(), 0);
        for (int i = 0; i < 8; i++) x.tried(0, i < 3);
        c.due("learn(): 7 and a half", x.learn(), 1);
        c.due("rule(5)", x.rule(5), 8);
        c.due("rule(6)", x.rule(6), 10);
        c.due("piece(0, 2)", x.piece(0, 2), 8);
        for (int i = 0; i < 9; i++) x.tried(1, i < 4);
        c.due("learn(): 8 and 8 by 9", x.learn(), 1);
        c.due("rule(6)", x.rule(6), 9);
        c.due("learn()", x.learn(), 0);
        for (int i = 0; i < 2; i++) x.tried(i, true);
        c.due("learn(): 4 by 9, 5 by 10", x.learn(), 2);
        c.due("rule(5): 8 and 8 by 9", x.rule(5), 9);
        c.due("rule(6): 10", x.rule(6), 10);
    }

    private static void p30() {
        c.promise(30);
        TwoOnWall x = withPieces();
        c.due("story(4, 0)", x.story(4, 0), 1L << 12);
        c.due("story(0, 6)", x.story(0, 6), 1L << 6 | 1L << 12);
        c.due("story(4, 3)", x.story(4, 3), 1L << 9);
        c.due("story(0, 0): from 1 and 2, nothing looked at", x.story(0, 0), 1L << 1 | 1L << 2);
        c.due("story(2, 0): the upper one is not looked at", x.story(2, 0), 1L << 6 | 1L << 7 | 1L << 8);
        c.due("story(7, 0)", x.story(7, 0), 15L << 9);
        c.due("story(5, 0)", x.story(5, 0), 0);
        // One that holds nothing POPS in any case: it must be among those that were found.
        x = Check.wall("top 40;give 0;holds 0;rack 1 1;at 20 1 crack 1;");
        x.put(20, 1);
        c.due("story(0, 20)", x.story(0, 20), 0);
        c.due("story(1, 0)", x.story(1, 0), (1L << 41) - (1L << 20));
        int[] bits = {2, -1, MIN, MAX};
        for (int b : bits) c.due("story(" + b + ", 0)", x.story(b, 0), -1);
        int[] feet = {-1, 41, MIN, MAX};
        for (int h : feet) c.due("story(0, " + h + ")", x.story(0, h), -1);
    }

    private static void p31() {
        c.promise(31);
        TwoOnWall x = withPieces();
        part("odds(0, 6, 12)", x.odds(0, 6, 12, 0), x.odds(0, 6, 12, 1), 7, 11);
        part("odds(0, 6, 6)", x.odds(0, 6, 6, 0), x.odds(0, 6, 6, 1), 4, 11);
        part("odds(0, 6, 7)", x.odds(0, 6, 7, 0), x.odds(0, 6, 7, 1), 0, 1);
        part("odds(4, 0, 12)", x.odds(4, 0, 12, 0), x.odds(4, 0, 12, 1), 1, 1);
        // From 6, 7, 8 the middle one POPS: HARD 4, 1, 5; the lowest one held each (or it hung at 0).
        part("odds(2, 0, 8)", x.odds(2, 0, 8, 0), x.odds(2, 0, 8, 1), 1, 2);
        c.due("odds(5, 0, 12, 0)", x.odds(5, 0, 12, 0), -4);
        c.due("odds(8, 0, 12, 0)", x.odds(8, 0, 12, 0), -1);
        c.due("odds(0, 13, 12, 0)", x.odds(0, 13, 12, 0), -1);
        c.due("odds(0, -1, 12, 0)", x.odds(0, -1, 12, 0), -1);
        c.due("odds(0, 6, 0, 0)", x.odds(0, 6, 0, 0), -1);
        c.due("odds(0, 6, 13, 0)", x.odds(0, 6, 13, 0), -1);
        c.due("odds(0, 6, 12, 2)", x.odds(0, 6, 12, 2), -1);
        c.due("odds(0, 6, 12, -1)", x.odds(0, 6, 12, -1), -1);
        // A piece good for certain can not have popped, if it can hold; of 10 it can not from 6 on.
        x = Check.wall("top 7;give 0;holds 12;fits 20 0;rack 1 1;at 3 1 crack 1;at 6 2;at 7 4;");
        x.put(3, 1);
        c.due("odds(1, 0, 3, 0)", x.odds(1, 0, 3, 0), -4);
        x = Check.wall("top 7;give 0;holds 9;fits 20 0;rack 1 1;at 3 1 crack 1;at 4 9;at 6 2;at 7 4;");
        x.put(3, 1);
        part("odds(1, 0, 6)", x.odds(1, 0, 6, 0), x.odds(1, 0, 6, 1), 1, 3);
        part("odds(1, 0, 4)", x.odds(1, 0, 4, 0), x.odds(1, 0, 4, 1), 0, 1);
        x = Check.wall("top 1;at 1 0;");
        c.due("odds of HARD 0", x.odds(0, 0, 1, 0), -4);
        c.due("story of HARD 0", x.story(0, 0), 2);
    }

    private static void bolts(String text, int... due) {
        TwoOnWall x = Check.wall(text);
        c.due("bolts(0) of " + text, x.bolts(0), due.length);
        for (int i = 0; i < due.length; i++) c.due("bolts(10 and " + i + ") of " + text, x.bolts(10 + i), due[i]);
        c.due("bolts(10 and " + due.length + ")", x.bolts(10 + due.length), -1);
    }

    private static void p32() {
        c.promise(32);
        // From b one falls by 2 a foot: it is at the ground from 2 b on.
        bolts("top 12;give 0;low 1;", 2, 4, 7);
        bolts("top 12;give 0;low 2;", 2, 4, 7);
        bolts("top 5;give 0;low 5;");
        bolts("top 6;give 0;low 5;", 4);
        bolts("top 1;give 0;low 0;", 1);
        bolts("top 2;give 0;low 0;", 1, 2);
        bolts("top 4;give 0;low 1;at 1 1 ledge;", 2, 3);
        bolts("top 12;give 0;low 1;at 8 1 ledge;", 2, 3, 5, 9, 10, 11);
        TwoOnWall x = Check.wall("top 40;rope 10;at 8 1 ledge;at 17 9 ledge;at 34 1 ledge;");
        c.due("bolts(0): by give one falls onto the LEDGE below", x.bolts(0), -4);
        c.due("what is not, and BAD fits first", x.bolts(10), -1);
        c.due("bolts(1)", x.bolts(1), -1);
        int[] bad = {-1, 1, 9, MIN, MAX};
        for (int what : bad) c.due("bolts(" + what + ")", x.bolts(what), -1);
    }

    private static void p33() {
        c.promise(33);
        TwoOnWall x = withPieces();
        c.due("image(0)", x.image(0), 0);
        c.due("image(0)", x.image(0), 1);
        c.due("image(1)", x.image(1), 0);
        c.due("count(6)", x.count(6), 2);
        int[] bad = {-1, 2, MIN, MAX};
        for (int i : bad) c.due("image(" + i + ")", x.image(i), -1);
        x.strip();
        x.image(0);
        c.due("back(0): the later one", x.back(0), 0);
        c.due("back(1): the other one", x.back(1), 3);
    }

    private static void p34() {
        c.promise(34);
        TwoOnWall x = withPieces();
        x.sling(6, true);
        x.tried(0, true);
        x.tried(1, false);
        c.due("back(1)", x.back(1), -2);
        x.image(1);
        x.learn();
        x.tried(0, false);
        x.sling(6, false);
        x.sling(3, true);
        x.take(9);
        c.due("rule(5)", x.rule(5), 20);
        c.due("back(0)", x.back(0), -2);
        c.due("back(1)", x.back(1), 3);
        c.due("rule(5)", x.rule(5), 18);
        c.due("rule(6)", x.rule(6), 10);
        c.due("eye(0, 1)", x.eye(0, 1), 1);
        c.due("eye(1, 0)", x.eye(1, 0), 0);
        c.due("count(4)", x.count(4), 0);
        c.due("count(5)", x.count(5), 2);
        c.due("piece(0, 4)", x.piece(0, 4), 0);
        c.due("piece(1, 4)", x.piece(1, 4), 1);
        c.due("piece(2, 0)", x.piece(2, 0), 9);
        x.strip();
        c.due("back(1) again", x.back(1), 3);
        int[] bad = {-1, 2, MIN, MAX};
        for (int i : bad) c.due("back(" + i + ")", x.back(i), -1);
    }

    private static void p35() {
        c.promise(35);
        TwoOnWall x = new TwoOnWall();
        c.due("sheet(0, 0, 0)", x.sheet(0, 0, 0), 1);
        c.due("count(8)", x.count(8), 0);
        c.due("sheet(0, 2, 40)", x.sheet(0, 2, 40), 1);
        c.due("count(8)", x.count(8), 40);
        c.due("sheet(0, 2, 41)", x.sheet(0, 2, 41), -1);
        c.due("sheet(0, 2, -1)", x.sheet(0, 2, -1), -14);
        c.due("sheet(0, 2, MIN)", x.sheet(0, 2, MIN), -14);
        c.due("sheet(4, 2, -1)", x.sheet(4, 2, -1), -1);
        c.due("sheet(-1, 2, 1)", x.sheet(-1, 2, 1), -1);
        c.due("sheet(0, 3, -1)", x.sheet(0, 3, -1), -1);
        c.due("sheet(0, -1, 1)", x.sheet(0, -1, 1), -1);
        c.due("count(8)", x.count(8), 40);
        c.due("lay(0, 39, 1)", x.lay(0, 39, 1), 1);
        c.due("sheet(3, 1, 1)", x.sheet(3, 1, 1), 1);
        c.due("lay(3, 0, 1)", x.lay(3, 0, 1), 1);
        c.due("lay(2, 0, 1)", x.lay(2, 0, 1), -11);
        // A new row is of CELLS 0: at foot 0 no piece can be put.
        x = Check.wall("top 1;rack 1 1;at 1 1 crack 1;");
        x.sheet(0, 0, 2);
        x.lay(0, 0, 1);
        x.lay(0, 1, 1);
        x.sheet(0, 0, 2);
        c.due("read(0, 0, 0, 1)", x.read(0, 0, 0, 1), -20);
    }

    private static void p36() {
        c.promise(36);
        TwoOnWall x = Check.wall("top 1;rack 1 1;at 1 1 crack 1;");
        int[] ks = {-1, 4, MIN, MAX};
        for (int k : ks) c.due("lay(" + k + ", 0, 0)", x.lay(k, 0, 0), -1);
        c.due("lay(0, 0, 0)", x.lay(0, 0, 0), -11);
        x.sheet(0, 0, 2);
        x.sheet(1, 1, 2);
        x.sheet(2, 2, 2);
        int[] cells = {-1, 2, 40, MIN, MAX};
        for (int i : cells) c.due("lay(0, " + i + ", 0)", x.lay(0, i, 0), -12);
        // The lowest bits: of a byte 257 is 1, of a short 65537 is, of an int neither.
        int[] v = {257, 65537, 1};
        for (int lane = 0; lane < 3; lane++) {
            c.due("lay of foot", x.lay(lane, 0, v[lane]), 1);
            c.due("lay of size", x.lay(lane, 1, v[lane]), 1);
            c.due("read of lane " + lane, x.read(lane, lane, 0, 1), 1);
            x.strip();
        }
        x.lay(1, 0, 257);
        c.due("read of a short 257", x.read(1, 1, 0, 1), -20);
        x.lay(2, 0, 65537);
        c.due("read of an int 65537", x.read(2, 2, 0, 1), -20);
        x.lay(0, 0, 255);
        c.due("read of a byte -1", x.read(0, 0, 0, 1), -20);
    }

    private static void p37() {
        c.promise(37);
        TwoOnWall x = Check.wall(WALL);
        int[] row = {3, 3, 6, 5, 9, 3, 12, 3, 1};
        x.sheet(0, 0, 9);
        for (int i = 0; i < 9; i++) x.lay(0, i, row[i]);
        c.due("read of 3", x.read(0, 0, 0, 3), 3);
        c.due("piece(1, 0)", x.piece(1, 0), 6);
        x.strip();
        c.due("read of 4: THE RACK has no third", x.read(0, 0, 0, 4), -23);
        c.due("count(0)", x.count(0), 0);
        c.due("count(4)", x.count(4), 3);
        c.due("read of the upper ones, then of a half", x.read(0, 0, 4, 3), 2);
        c.due("torn()", x.torn(), 2);
        c.due("piece(1, 0)", x.piece(1, 0), 12);
        x.strip();
        x.put(6, 5);
        x.sling(6, true);
        c.due("read of one that is there", x.read(0, 0, 0, 3), -21);
        c.due("count(0)", x.count(0), 1);
        c.due("piece(0, 4)", x.piece(0, 4), 1);
        c.due("read of none, of no SHEET", x.read(3, 2, 0, 0), 0);
        c.due("read of none, beyond", x.read(0, 0, MAX, 0), 0);
        int[] cells = {-1, -2, 8, 9, 40, MIN, MAX, MAX - 1};
        for (int f : cells) {
            c.due("read from " + f, x.read(0, 0, f, 1), 0);
            c.due("torn()", x.torn(), 2);
        }
        c.due("read(0, 1, 0, 1)", x.read(0, 1, 0, 1), 0);
        c.due("torn()", x.torn(), 3);
        c.due("read(1, 1, 0, 1)", x.read(1, 1, 0, 1), 0);
        c.due("torn()", x.torn(), 1);
        int[] bad = {-1, 4, MIN, MAX};
        for (int k : bad) c.due("read(" + k + ", 0, 0, 1)", x.read(k, 0, 0, 1), -1);
        int[] lanes = {-1, 3, MIN, MAX};
        for (int lane : lanes) c.due("read(0, " + lane + ", 0, 1)", x.read(0, lane, 0, 1), -1);
        int[] ns = {-1, 11, MIN, MAX};
        for (int n : ns) c.due("read(0, 0, 0, " + n + ")", x.read(0, 0, 0, n), -1);
        readsTen();
    }

    private static void readsTen() {
        TwoOnWall x = Check.wall(CRACKS);
        x.sheet(2, 2, 22);
        for (int h = 1; h <= 11; h++) {
            x.lay(2, 2 * h - 2, h);
            x.lay(2, 2 * h - 1, x.foot(h, 1));
        }
        c.due("read of 10", x.read(2, 2, 0, 10), 10);
        c.due("read of an eleventh", x.read(2, 2, 20, 1), -20);
        x.strip();
        x.put(12, 3);
        c.due("read of an eleventh", x.read(2, 2, 0, 10), -29);
        c.due("count(0)", x.count(0), 1);
    }

    private static void p38() {
        c.promise(38);
        TwoOnWall x = Check.wall(WALL);
        c.due("torn()", x.torn(), 0);
        x.read(0, 0, 0, 1);
        c.due("torn() of nothing", x.torn(), 1);
        x.read(0, 0, 0, 11);
        c.due("torn() behind BAD", x.torn(), 1);
        x.sheet(0, 0, 2);
        x.read(0, 0, 0, 1);
        c.due("torn() behind one that is refused", x.torn(), 1);
        x.lay(0, 0, 3);
        x.lay(0, 1, 3);
        x.read(0, 1, 0, 1);
        c.due("torn() of another lane", x.torn(), 3);
        x.read(0, 0, 0, 1);
        c.due("torn() of a whole one", x.torn(), 0);
        x.read(0, 0, 1, 1);
        c.due("torn() of a half", x.torn(), 2);
        x.text();
        c.due("torn() behind a text", x.torn(), 2);
        x.read(0, 1, 0, 0);
        c.due("torn() of none", x.torn(), 0);
    }

    private static void p39() {
        c.promise(39);
        TwoOnWall x = withPieces();
        x.tried(1, true);
        x.image(1);
        x.feed(0);
        x.sheet(0, 1, 7);
        x.sheet(1, 1, 8);
        x.take(3);
        int[] counts = {2, 4, 1, 1, 1, 1, 1, 8, 7};
        for (int i = 0; i < 9; i++) c.due("count(" + i + ")", x.count(i), counts[i]);
        int[] bad = {-1, 9, MIN, MAX};
        for (int what : bad) c.due("count(" + what + ")", x.count(what), -1);
        x = Check.wall("rack 10 4;rack 1 3;at 20 1 crack 10 ledge rest;");
        x.put(20, 10);
        x.image(0);
        x.take(20);
        c.due("count(4) of sizes 1 and 10", x.count(4), 7);
        x.back(0);
        c.due("count(4) behind back(0)", x.count(4), 6);
        for (int i = 1; i <= 3; i++) c.due("count(" + i + ") at TOP", x.count(i), 1);
    }
}
