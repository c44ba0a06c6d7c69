import java.util.function.ToIntFunction;

/** Boundary cases of the text and the wall: promises 1 to 7. */
public final class EdgesTextTest extends Edges {
    private static final long BLANKS = 0x2020202020202020L;

    public static void main(String[] args) {
        new EdgesTextTest().run(1, 7);
    }

    /** A wall on which all is otherwise than at first, with pieces, tries, images, sheets and a tape. */
    private static TwoOnWall used() {
        TwoOnWall x = Check.wall("top 9;strength 99;place 3;rope 7;give 5;fits 15 7;holds 20;low 1;rack 1 2;rack 2 1;"
            + "at 3 2 crack 1 side 4;at 5 0 crack 2 ledge;at 9 9 crack 1 rest;");
        x.put(3, 1);
        x.image(1);
        x.put(5, 2);
        x.sling(5, true);
        x.image(0);
        x.take(3);
        x.tried(0, true);
        x.tried(1, false);
        x.sheet(0, 0, 4);
        x.lay(0, 0, 3);
        x.lay(0, 1, 1);
        x.sheet(3, 2, 1);
        x.read(3, 1, 0, 1);
        return x;
    }

    private static TwoOnWall fed(int calls) {
        TwoOnWall x = new TwoOnWall();
        for (int i = 0; i < calls; i++) x.feed(BLANKS);
        return x;
    }

    // ---- promise 1: a new object.

    @Edge(of = 1, words = "As told at first")
    void p01RulesAreAsAtFirst() {
        TwoOnWall x = new TwoOnWall();
        int[] first = {20, 200, 10, 40, 10, 18, 10, 6, 2};
        for (int i = 0; i < 9; i++) due("rule(" + i + ")", x.rule(i), first[i]);
    }

    @Edge(of = 1, words = "A FOOT: HARD (0 to 9; 1), a CRACK (size 1 to 10; 0: none), whether there is a LEDGE, a REST, SIDE (0 to 9; 5).")
    void p01FeetAreAsAtFirst() {
        TwoOnWall x = new TwoOnWall();
        int[] first = {1, 0, 0, 0, 5, NONE};
        for (int h = 1; h <= 20; h++) {
            for (int i = 0; i < 6; i++) due("foot(" + h + ", " + i + ")", x.foot(h, i), first[i]);
        }
        due("foot(21, 0)", x.foot(21, 0), BAD);
    }

    @Edge(of = 1, words = "of each size 1 to 10 so many PIECES (0 to 5; 0)")
    void p01TheRackIsEmpty() {
        TwoOnWall x = new TwoOnWall();
        for (int s = 1; s <= 10; s++) due("rule(10 and " + s + ")", x.rule(10 + s), 0);
        due("count(4)", x.count(4), 0);
    }

    @Edge(of = 1, words = "SHEETS of nothing.")
    void p01SheetsAreNothing() {
        TwoOnWall x = new TwoOnWall();
        due("count(8)", x.count(8), NONE);
        for (int k = 0; k < 4; k++) {
            due("lay(" + k + ", 0, 0)", x.lay(k, 0, 0), -11);
            due("read(" + k + ", 0, 0, 1)", x.read(k, 0, 0, 1), 0);
            due("torn()", x.torn(), 1);
        }
    }

    @Edge(of = 1, words = "As told at first")
    void p01NothingIsThere() {
        TwoOnWall x = new TwoOnWall();
        for (int i = 0; i <= 7; i++) due("count(" + i + ")", x.count(i), 0);
        due("fault()", x.fault(), 0);
        due("torn()", x.torn(), 0);
        for (int i = 0; i < 2; i++) {
            due("back(" + i + ")", x.back(i), STATE);
            due("eye(" + i + ", 0)", x.eye(i, 0), NONE);
        }
        due("strip()", x.strip(), 0);
        due("end(0)", x.end(0), 0);
        due("text()", x.text(), 0);
    }

    @Edge(of = 1, words = "As told at first")
    void p01WhatTheFirstWallAnswers() {
        due("plan(0)", new TwoOnWall().plan(0), 207);
        due("plan(1)", new TwoOnWall().plan(1), 0);
        due("keep(1, 0)", new TwoOnWall().keep(1, 0), 207);
        due("best(0)", new TwoOnWall().best(0), 40);
        due("best(1)", new TwoOnWall().best(1), 207);
        due("adopt()", new TwoOnWall().adopt(), 0);
        due("pitches(0)", new TwoOnWall().pitches(0), 1);
        due("pitches(10)", new TwoOnWall().pitches(10), 20);
        due("leads(1, 1, true, 0)", new TwoOnWall().leads(1, 1, true, 0), 20);
        due("down(20)", new TwoOnWall().down(20), 1);
        // A FALL from 10 on is 1 longer, that from 20 by 2: the second BOLT from 3 up is 7 at least.
        int[] bolts = {2, 4, 7, 12, BAD};
        due("bolts(0)", new TwoOnWall().bolts(0), 4);
        for (int i = 0; i < 5; i++) due("bolts(10 and " + i + ")", new TwoOnWall().bolts(10 + i), bolts[i]);
    }

    @Edge(of = 1, words = "BAD -1 (a number is not as told, there is no such FOOT, PIECE, IMAGE, SHEET), STATE -2 (as told), FULL -3, NONE -4 (there is none)")
    void p01Constants() {
        due("BAD", TwoOnWall.BAD, -1);
        due("STATE", TwoOnWall.STATE, -2);
        due("FULL", TwoOnWall.FULL, -3);
        due("NONE", TwoOnWall.NONE, -4);
    }

    // ---- promise 2: feed.

    @Edge(of = 2, words = "Eight bytes come behind THE TAPE, the highest first: how many it has.")
    void p02HowManyItHas() {
        TwoOnWall x = new TwoOnWall();
        for (int i = 1; i <= 50; i++) due("feed no. " + i, x.feed(0), 8 * i);
        due("count(7)", x.count(7), 400);
    }

    @Edge(of = 2, words = "the highest first")
    void p02TheHighestByteIsFirst() {
        long[] v = {-1, Long.MIN_VALUE, 0, 1, Long.MAX_VALUE, 0x2020202020202001L, 0x20202020202001FFL, 0x20FF202020202001L,
            0x2020202001202020L, 0x20202001FF202020L};
        int[] at = {0, 0, 0, 0, 0, 7, 6, 1, 4, 3};
        for (int i = 0; i < v.length; i++) {
            TwoOnWall x = new TwoOnWall();
            x.feed(v[i]);
            due("text() of " + Long.toHexString(v[i]), x.text(), -10 - at[i]);
            due("fault()", x.fault(), 1);
        }
        TwoOnWall x = new TwoOnWall();
        x.feed(0x706C616365203132L); // place 12
        x.feed(0x3B6C6F7720333B20L); // ;low 3;
        due("text() of two feeds", x.text(), 2);
        due("rule(2)", x.rule(2), 12);
        due("rule(8)", x.rule(8), 3);
    }

    @Edge(of = 2, words = "FULL: more than 400.")
    void p02FullAboveFourHundred() {
        TwoOnWall x = fed(50);
        due("feed at 400", x.feed(BLANKS), FULL);
        for (int n = 399; n >= 393; n--) {
            x.end(n);
            due("feed at " + n, x.feed(BLANKS), FULL);
        }
        x.end(392);
        due("feed at 392", x.feed(BLANKS), 400);
    }

    @Edge(of = 2, words = "what is refused changes nothing (but THE TAPE, as told)")
    void p02FullChangesNothing() {
        changesNothing(() -> {
            TwoOnWall x = fed(48);
            x.feed(0x2020206C6F772033L); // low 3
            x.feed(0x3B20202020202020L);
            x.end(393);
            return x;
        }, x -> due("feed at 393", x.feed(-1), FULL));
    }

    @Edge(of = 2, words = "THE TAPE has 400 bytes, places from 0.")
    void p02AllFourHundredAreRead() {
        text(" ".repeat(394) + "low 8;", 1, 0);
        text(" ".repeat(395) + "low 8", -410, 2);
        text(" ".repeat(399) + "\u00ff", -409, 1);
        text(" ".repeat(399) + ";", -409, 2);
    }

    // ---- promise 3: end.

    @Edge(of = 3, words = "THE TAPE keeps its first n bytes: how many it had.")
    void p03TheFirstBytesAreKept() {
        TwoOnWall x = new TwoOnWall();
        Check.type(x, "low 7; low 8; ");
        due("end(14)", x.end(14), 14);
        due("end(6)", x.end(6), 14);
        due("count(7)", x.count(7), 6);
        due("feed", x.feed(0x706C6163652D203BL), 14);
        due("end(6)", x.end(6), 14);
        due("end(6)", x.end(6), 6);
        due("text()", x.text(), 1);
        due("rule(8)", x.rule(8), 7);
    }

    @Edge(of = 3, words = "THE TAPE keeps its first n bytes")
    void p03NothingAndAll() {
        TwoOnWall x = new TwoOnWall();
        due("end(0) of nothing", x.end(0), 0);
        for (int i = 0; i < 50; i++) x.feed(0);
        due("end(400)", x.end(400), 400);
        due("end(399)", x.end(399), 400);
        due("end(0)", x.end(0), 399);
        due("end(0)", x.end(0), 0);
        due("text()", x.text(), 0);
    }

    @Edge(of = 3, words = "BAD (n above that, too).")
    void p03BadAboveWhatItHas() {
        TwoOnWall x = new TwoOnWall();
        due("end(1) of nothing", x.end(1), BAD);
        for (int i = 0; i < 50; i++) x.feed(BLANKS);
        due("end(401)", x.end(401), BAD);
        x.end(8);
        int[] ns = {9, 400, MAX, -1, -8, MIN};
        for (int n : ns) due("end(" + n + ")", x.end(n), BAD);
        due("end(8)", x.end(8), 8);
    }

    @Edge(of = 3, words = "what is refused changes nothing (but THE TAPE, as told)")
    void p03BadChangesNothing() {
        changesNothing(() -> {
            TwoOnWall x = used();
            Check.type(x, "low 6;");
            return x;
        }, x -> {
            due("end(7)", x.end(7), BAD);
            due("end(-1)", x.end(-1), BAD);
        });
    }

    // ---- promise 4: text, TOKENS.

    @Edge(of = 4, words = "THE TAPE (empty then, by a FAULT, too)")
    void p04TheTapeIsEmptyThen() {
        TwoOnWall x = new TwoOnWall();
        String[] texts = {"low 1;", "low 1", "", "   ", "?", "at 40 1;"};
        for (String text : texts) {
            Check.type(x, text);
            x.text();
            due("count(7) behind " + text, x.count(7), 0);
            due("end(0) behind " + text, x.end(0), 0);
            due("text() of what is left", x.text(), 0);
        }
    }

    @Edge(of = 4, words = "tells all: how many lines")
    void p04HowManyLines() {
        text("", 0, 0);
        text(" ", 0, 0);
        text(" ".repeat(400), 0, 0);
        text("low 1;", 1, 0);
        text("low 1;top", -19, 2);
        StringBuilder most = new StringBuilder("top40;");
        for (int h = 1; h <= 40; h++) most.append("at").append(h).append(" 1;");
        for (int s = 1; s <= 10; s++) most.append("rack").append(s).append(" 1;");
        text(most.toString(), 51, 0);
    }

    @Edge(of = 4, words = "-10 less the place of its FAULT")
    void p04ThePlaceOfAFault() {
        for (int n = 0; n < 400; n++) text(" ".repeat(n) + "?", -10 - n, 1);
        text(" ".repeat(397) + "low", -410, 2);
    }

    @Edge(of = 4, words = "that which was told stays")
    void p04AFaultLeavesAll() {
        String[] texts = {"top 1;low 9;give 0;rack 1 5;at 1 5 crack 1;?", "top 3;low 5", "strength 1;low 10;", "top 5;low 4;top 6;",
            "top 1;fits 1 1;at 2 1;"};
        for (String text : texts) {
            TwoOnWall x = used();
            Check.type(x, text);
            due("a FAULT", x.text() < -10 ? 1 : 0, 1);
            TwoOnWall twin = used();
            for (int i = 0; i < 9; i++) due("rule(" + i + ")", x.rule(i), twin.rule(i));
            for (int i = 0; i < 9; i++) due("count(" + i + ")", x.count(i), twin.count(i));
            for (int h = 1; h <= 9; h++) {
                for (int i = 0; i < 6; i++) due("foot(" + h + ", " + i + ")", x.foot(h, i), twin.foot(h, i));
            }
            due("torn()", x.torn(), twin.torn());
            due("eye(0, 0)", x.eye(0, 0), 1);
            due("plan(0)", x.plan(0), twin.plan(0));
            due("bolts(0)", x.bolts(0), twin.bolts(0));
            due("pitches(10)", x.pitches(10), twin.pitches(10));
            due("back(1)", x.back(1), 1);
            due("back(0)", x.back(0), 2);
            due("piece(1, 4)", x.piece(1, 4), 1);
        }
    }

    @Edge(of = 4, words = "TOKENS, each as long as may be")
    void p04TokensAreAsLongAsMayBe() {
        text("a".repeat(400), -10, 2);
        text("9".repeat(400), -10, 1);
        text("tops 5;", -10, 2);
        text("to p 5;", -10, 2);
        text("at 1 1 ledges;", -17, 2);
        text("at 12 1;", 1, 0);
        text("at 1 2 1;", -17, 2);
        text("low 01;", 1, 0);
    }

    @Edge(of = 4, words = "2 a TOKEN that can not stand there (a NAME that begins no line, is no with; or the end: the length).")
    void p04NamesToTheLetter() {
        String[] lines = {"at", "rack", "top", "strength", "place", "rope", "give", "fits", "holds", "low"};
        for (String name : lines) otherNames("", name);
        String[] withs = {"crack", "ledge", "rest", "side"};
        for (String name : withs) otherNames("at 1 1 ", name);
    }

    /** A NAME with one letter changed, one less or one more is none. */
    private void otherNames(String ahead, String name) {
        for (int i = 0; i < name.length(); i++) {
            char other = name.charAt(i) == 'z' ? 'a' : (char) (name.charAt(i) + 1);
            text(ahead + name.substring(0, i) + other + name.substring(i + 1) + " 1 1;", -10 - ahead.length(), 2);
            text(ahead + name.substring(0, i) + name.substring(i + 1) + " 1 1;", -10 - ahead.length(), 2);
            text(ahead + name.substring(0, i) + 'q' + name.substring(i) + " 1 1;", -10 - ahead.length(), 2);
        }
        text(ahead + name + name + " 1 1;", -10 - ahead.length(), 2);
        text(ahead + name + "q 1 1;", -10 - ahead.length(), 2);
    }

    @Edge(of = 4, words = "blanks (32) ahead, between, behind, as many as wanted")
    void p04AsManyBlanksAsWanted() {
        text("  at   3  4   crack   5  ledge  ;  low  1  ;  ", 2, 0);
        text(" ".repeat(100) + "low" + " ".repeat(200) + "1" + " ".repeat(90) + ";" + " ".repeat(5), 1, 0);
        text("low\t1;", -13, 1);
        text("low 1;\n", -16, 1);
        text("\rlow 1;", -10, 1);
        text("low\u00a01;", -13, 1);
        text("low 1\u0000;", -15, 1);
    }

    @Edge(of = 4, words = "(at least one between two NAMES, between two NUMBERS; else none is needed)")
    void p04WhereABlankIsNeeded() {
        TwoOnWall x = Check.wall("at7 3crack2ledge rest side4;rack2 5;fits12 13;top39;");
        due("foot(7, 0)", x.foot(7, 0), 3);
        due("foot(7, 1)", x.foot(7, 1), 2);
        due("foot(7, 4)", x.foot(7, 4), 4);
        due("rule(12)", x.rule(12), 5);
        due("rule(5)", x.rule(5), 12);
        due("rule(6)", x.rule(6), 13);
        text("at7 3ledgerest;", -15, 2);
        text("fits12;", -16, 2);
        text("rack25;", -14, 3);
        text("low1;low2;", -15, 4);
    }

    @Edge(of = 4, words = "NAMES (a .. z), NUMBERS (1 to 3 figures), the sign ; (a point is none)")
    void p04EachByteByItself() {
        for (int b = 0; b < 256; b++) {
            boolean isToken = b >= 'a' && b <= 'z' || b >= '0' && b <= '9' || b == ';';
            text(String.valueOf((char) b), b == ' ' ? 0 : -10, b == ' ' ? 0 : isToken ? 2 : 1);
            if (b != ' ' && !isToken) text("low 1" + (char) b, -15, 1);
            if (b != ' ' && !isToken) text("low" + (char) b, -13, 1);
        }
    }

    @Edge(of = 4, words = "NUMBERS (1 to 3 figures)")
    void p04OneToThreeFigures() {
        text("low 1;", 1, 0);
        text("low 01;", 1, 0);
        text("low 001;", 1, 0);
        text("low 0001;", -14, 1);
        text("low 0000000000;", -14, 1);
        text("low 4294967297;", -14, 1);
        text("at 1 1 crack 18446744073709551617;", -23, 1);
    }

    // ---- promise 4: lines, each NUMBER from the least to the greatest, and all those beyond.

    /** Every NUMBER of up to three figures where _ stands: just those from least to most are taken, and are then told. */
    private void bounds(String line, int least, int most, ToIntFunction<TwoOnWall> told) {
        int at = line.indexOf('_');
        for (int n = 0; n <= 999; n++) {
            String text = line.substring(0, at) + n + line.substring(at + 1);
            if (n < least || n > most) {
                text(text, -10 - at, 3);
            } else {
                TwoOnWall x = new TwoOnWall();
                Check.type(x, text);
                due("text() of " + text, x.text() < 0 ? -1 : 0, 0);
                due("what is told by " + text, told.applyAsInt(x), n);
            }
        }
        text(line.substring(0, at) + "1000" + line.substring(at + 1), -10 - at, 1);
    }

    @Edge(of = 4, words = "at: a FOOT (1 to 40), HARD.")
    void p04AtOneToForty() {
        bounds("at _ 7;top 40;", 1, 40, x -> {
            int at = 0;
            for (int h = 1; h <= 40; h++) at += x.foot(h, 0) == 7 ? h : 0;
            return at;
        });
    }

    @Edge(of = 4, words = "A FOOT: HARD (0 to 9; 1)")
    void p04HardZeroToNine() {
        bounds("at 3 _;", 0, 9, x -> x.foot(3, 0));
    }

    @Edge(of = 4, words = "a CRACK (size 1 to 10; 0: none)")
    void p04CrackOneToTen() {
        bounds("at 3 1 crack _;", 1, 10, x -> x.foot(3, 1));
    }

    @Edge(of = 4, words = "SIDE (0 to 9; 5)")
    void p04SideZeroToNine() {
        bounds("at 3 1 side _;", 0, 9, x -> x.foot(3, 4));
    }

    @Edge(of = 4, words = "rack: a size, how many.")
    void p04RackOneToTen() {
        bounds("rack _ 3;", 1, 10, x -> {
            int size = 0;
            for (int s = 1; s <= 10; s++) size += x.rule(10 + s) == 3 ? s : 0;
            return size;
        });
    }

    @Edge(of = 4, words = "of each size 1 to 10 so many PIECES (0 to 5; 0)")
    void p04RackZeroToFive() {
        bounds("rack 10 _;", 0, 5, x -> x.rule(20));
    }

    @Edge(of = 4, words = "0 top (1 to 40; 20)")
    void p04TopOneToForty() {
        bounds("top _;", 1, 40, x -> x.rule(0));
    }

    @Edge(of = 4, words = "1 strength (1 to 999; 200)")
    void p04StrengthOneToMost() {
        bounds("strength _;", 1, 999, x -> x.rule(1));
    }

    @Edge(of = 4, words = "2 place (0 to 99; 10)")
    void p04PlaceZeroToMost() {
        bounds("place _;", 0, 99, x -> x.rule(2));
    }

    @Edge(of = 4, words = "3 rope (1 to 60; 40)")
    void p04RopeOneToSixty() {
        bounds("rope _;", 1, 60, x -> x.rule(3));
    }

    @Edge(of = 4, words = "4 give (0 to 50; 10)")
    void p04GiveZeroToFifty() {
        bounds("give _;", 0, 50, x -> x.rule(4));
    }

    @Edge(of = 4, words = "5 fits (0 to 20; 18)")
    void p04FitsZeroToTwenty() {
        bounds("fits _ 3;", 0, 20, x -> x.rule(5));
    }

    @Edge(of = 4, words = "6 nearly (0 to 20; 10)")
    void p04NearlyZeroToTwenty() {
        bounds("fits 3 _;", 0, 20, x -> x.rule(6));
    }

    @Edge(of = 4, words = "7 holds (0 to 60; 6)")
    void p04HoldsZeroToSixty() {
        bounds("holds _;", 0, 60, x -> x.rule(7));
    }

    @Edge(of = 4, words = "8 low (0 to 9; 2)")
    void p04LowZeroToNine() {
        bounds("low _;", 0, 9, x -> x.rule(8));
    }

    @Edge(of = 4, words = "with: crack N | ledge | rest | side N")
    void p04NoneToFourWiths() {
        text("at 1 1;", 1, 0);
        text("at 1 1 side 0 rest ledge crack 1;", 1, 0);
        TwoOnWall x = Check.wall("at 4 1 side 0;at 5 1 ledge;at 6 1 rest;at 7 1 crack 10;");
        int[][] due = {{1, 0, 0, 0, 0}, {1, 0, 1, 0, 5}, {1, 0, 0, 1, 5}, {1, 10, 0, 0, 5}};
        for (int h = 4; h <= 7; h++) {
            for (int i = 0; i < 5; i++) due("foot(" + h + ", " + i + ")", x.foot(h, i), due[h - 4][i]);
        }
    }

    // ---- promise 4: FAULTS.

    @Edge(of = 4, words = "1 no TOKEN, a NUMBER that is too long (its first byte).")
    void p04Fault1() {
        text(".", -10, 1);
        text("low 1;.", -16, 1);
        text("low.", -13, 1);
        text("low 1.", -15, 1);
        text("at 1 1 ,", -17, 1);
        text("at 1 1 crack -1;", -23, 1);
        text("low 1111;", -14, 1);
        text("low   1111;", -16, 1);
        text("1111", -10, 1);
        text("at 1 1 1111;", -17, 1);
    }

    private static final String[] RULES = {"top", "strength", "place", "rope", "give", "holds", "low"};

    /** Behind this, words that can not stand there: each is FAULT 2 at its own place, or at the end. */
    private void standNot(String ahead, String... words) {
        for (String word : words) text(ahead + word, -10 - ahead.length(), 2);
    }

    @Edge(of = 4, words = "2 a TOKEN that can not stand there (a NAME that begins no line, is no with; or the end: the length).")
    void p04Fault2WhereALineBegins() {
        String[] wrong = {";", "1", "x", "crack 1;", "ledge;", "rest;", "side 1;", "nearly 1;", "tops 1;", "to 1;", "attop 1;", "lo", "lows 1;"};
        standNot("", wrong);
        standNot("  ", wrong);
        standNot("low 1;", wrong);
        standNot("at 1 1 rest ; ", wrong);
        text("", 0, 0);
        text("low 1; ", 1, 0);
    }

    @Edge(of = 4, words = "2 a TOKEN that can not stand there (a NAME that begins no line, is no with; or the end: the length).")
    void p04Fault2WhereANumberStands() {
        String[] wrong = {"", ";", "x", "low 1;", "ledge;"};
        for (String rule : RULES) standNot(rule + " ", wrong);
        standNot("at ", wrong);
        standNot("at 1 ", wrong);
        standNot("at 1 1 crack ", wrong);
        standNot("at 1 1 side ", wrong);
        standNot("rack ", wrong);
        standNot("rack 1 ", wrong);
        standNot("fits ", wrong);
        standNot("fits 1 ", wrong);
    }

    @Edge(of = 4, words = "2 a TOKEN that can not stand there (a NAME that begins no line, is no with; or the end: the length).")
    void p04Fault2WhereTheSignStands() {
        String[] wrong = {"", "1", "x", "low 1;", "ledge;"};
        for (String rule : RULES) standNot(rule + " 1 ", wrong);
        standNot("rack 1 1 ", wrong);
        standNot("fits 1 1 ", wrong);
    }

    @Edge(of = 4, words = "2 a TOKEN that can not stand there (a NAME that begins no line, is no with; or the end: the length).")
    void p04Fault2WhereAWithStands() {
        String[] wrong = {"", "1", "x", "low 1;", "at 1 1;", "cracks 1;", "res;"};
        standNot("at 1 1 ", wrong);
        standNot("at 1 1 ledge ", wrong);
        standNot("at 1 1 rest ", wrong);
        standNot("at 1 1 crack 1 ", wrong);
        standNot("at 1 1 side 1 ", wrong);
        standNot("at 1 1 side 1 crack 1 rest ledge ", wrong);
    }

    @Edge(of = 4, words = "or the end: the length")
    void p04TheEndIsAtTheLength() {
        String[] texts = {"low", "low 1", "at 1 1", "at 1 1 rest", "rack 1", "fits 1", "at 1 1 crack"};
        for (String text : texts) {
            text(text, -10 - text.length(), 2);
            text(text + "   ", -13 - text.length(), 2);
            text(text + " ".repeat(400 - text.length()), -410, 2);
        }
    }

    @Edge(of = 4, words = "3 a NUMBER out of its bounds.")
    void p04Fault3IsAtTheNumber() {
        text("low   10;", -16, 3);
        text("low 010;", -14, 3);
        text("low10;", -13, 3);
        text("at 00 1;", -13, 3);
        text("at 1 1 rest ledge crack 0;", -34, 3);
        text("fits 20 21;", -18, 3);
    }

    @Edge(of = 4, words = "4 at of a FOOT, rack of a size for the second time (it)")
    void p04Fault4OfAFootOrASize() {
        for (int h = 1; h <= 40; h++) {
            String once = "at " + h + " 1;";
            text(once + "at " + (h % 40 + 1) + " 1;top 40;", 3, 0);
            text(once + "at   " + h + " 1;", -15 - once.length(), 4);
        }
        for (int s = 1; s <= 10; s++) {
            String once = "rack " + s + " 0;";
            text(once + "rack " + (s % 10 + 1) + " 0;", 2, 0);
            text(once + "rack " + s + " 1;", -15 - once.length(), 4);
        }
        text("at 1 1;low 1;at 01 1;", -26, 4);
        text("rack 1 1;at 1 1;rack 2 1;", 3, 0);
    }

    @Edge(of = 4, words = "a with, any other line for the second time (its NAME)")
    void p04Fault4OfAName() {
        for (String rule : RULES) {
            String once = rule + " 1;";
            text(once + rule + " 2;", -10 - once.length(), 4);
            text(once + "at 1 1; " + rule + " 1;", -18 - once.length(), 4);
        }
        text("fits 1 1;fits 1 1;", -19, 4);
        String[] withs = {"crack 1", "ledge", "rest", "side 1"};
        for (String with : withs) {
            text("at 1 1 " + with + " " + with + ";", -18 - with.length(), 4);
            text("at 1 1 " + with + ";at 2 1 " + with + ";", 2, 0);
        }
        text("at 1 1 side 1 rest side 2;", -29, 4);
    }

    @Edge(of = 4, words = "Behind all (the length): 5 a FOOT above TOP was told.")
    void p04Fault5IsAboveTop() {
        text("at 20 1;", 1, 0);
        text("at 21 1;", -18, 5);
        text("at 21 1;   ", -21, 5);
        text("top 39;at 40 1;", -25, 5);
        text("top 40;at 40 1;", 2, 0);
        text("at 40 1;top 40;", 2, 0);
        text("at 40 1;top 39;", -25, 5);
        text("top 1;at 2 1;at 1 1;", -30, 5);
        text("at 2 1;at 1 1;top 1; low 3;", -37, 5);
        text("top 1;at 1 1;", 2, 0);
        text("at 21 1;" + " ".repeat(392), -410, 5);
    }

    @Edge(of = 4, words = "Behind all (the length): 5 a FOOT above TOP was told.")
    void p04Fault5IsOfThisTextAlone() {
        TwoOnWall x = Check.wall("top 40;at 40 1;");
        Check.type(x, "at 21 1;");
        due("TOP is 20 again", x.text(), -18);
        Check.type(x, "top 5;");
        due("no FOOT of the text ahead counts", x.text(), 1);
        Check.type(x, "at 40 1;");
        x.text();
        Check.type(x, "at 20 1;");
        due("none of one with a FAULT", x.text(), 1);
    }

    @Edge(of = 4, words = "FAULTS, the first met as it is read (a TOKEN is read when the one before has been taken)")
    void p04TheFirstFaultMet() {
        text("x.", -10, 2);
        text("x 1111", -10, 2);
        text("low low.", -14, 2);
        text("low 10.", -14, 3);
        text("low 10 1111", -14, 3);
        text("low 1;low.", -16, 4);
        text("at 41.", -13, 3);
        text("at 1 1;at 1.", -20, 4);
        text("at 1 1;at 1 10;", -20, 4);
        text("rack 1 1;rack 1.", -24, 4);
        text("rack 1 1;rack 11 1;", -24, 3);
        text("at 1 1 rest rest.", -22, 4);
        text("at 1 1 crack 1 crack.", -25, 4);
        text("at 1 1 rest low.", -22, 2);
        text("low 1;low 10", -16, 4);
        text("low 1 ;;", -17, 2);
        text("at 30 1;x", -18, 2);
        text("at 30 1;low 10;", -22, 3);
        text("at 30 1;at 30 1;", -21, 4);
        text("at 30 1;?", -18, 1);
        text("at 30 1", -17, 2);
        text("low 1;x;low 1;", -16, 2);
    }

    @Edge(of = 4, words = "A text that is taken tells all, in place of what there was (what it does not tell is as at first)")
    void p04WhatIsNotToldIsAsAtFirst() {
        TwoOnWall x = used();
        due("text() of nothing", x.text(), 0);
        TwoOnWall first = new TwoOnWall();
        for (int i = 0; i < 9; i++) due("rule(" + i + ")", x.rule(i), first.rule(i));
        for (int s = 11; s <= 20; s++) due("rule(" + s + ")", x.rule(s), 0);
        for (int h = 1; h <= 20; h++) {
            for (int i = 0; i < 6; i++) due("foot(" + h + ", " + i + ")", x.foot(h, i), first.foot(h, i));
        }
        due("risk(0)", x.risk(0), first.risk(0));
        due("plan(0)", x.plan(0), first.plan(0));
        due("pitches(10)", x.pitches(10), 20);
        due("bolts(0)", x.bolts(0), first.bolts(0));
        due("down(20)", x.down(20), first.down(20));
    }

    private static final String[] WALLS = {
        "", "top 40;rope 5;", "top 3;low 1;strength 4;place 1;rack 1 1;rack 2 1;at 1 1 crack 1;at 2 1 crack 2;", "top 1;strength 1;at 1 2;",
        "top37;rope2;at2 1rest;at4 3ledge;at6 1rest;at8 1rest;at10 1rest;at12 1rest;at14 1ledge;at15 1rest;at17 9rest;at19 1rest;"
            + "at21 1rest;at23 1rest;at25 1rest;at27 1rest;at28 2rest;at29 1rest;at31 1rest;at33 1rest;at35 1rest;rack10 3;at36 1crack10;",
        "top 12;low 0;give 0;rack 10 2;rack 9 5;at 3 1 crack 10;at 5 1 crack 9;at 6 2 crack 9;at 9 9 crack 10 rest;at 12 3 crack 9;",
        "top 2;low 0;give 50;at 1 1 ledge;", "top 6;low 6;give 0;rope 3;at 3 5 rest;at 6 9;"};

    /** What hangs on the text alone: asked once, it is not the same for the next one. */
    private static String plans(TwoOnWall x) {
        StringBuilder all = new StringBuilder();
        for (int i = 0; i < 21; i++) all.append(x.plan(i)).append(' ').append(x.pitches(i)).append(' ').append(x.bolts(i)).append(' ');
        for (int i = 0; i < 3; i++) all.append(x.best(i)).append(' ').append(x.keep(2, i)).append(' ').append(x.keep(5, i)).append(' ');
        for (int i = 10; i < 30; i++) all.append(x.leads(2, 3, false, i)).append(' ').append(x.leads(3, 2, true, i)).append(' ');
        all.append(x.leads(2, 3, false, 0)).append(' ').append(x.leads(2, 3, true, 0));
        for (int h = 0; h <= 40; h++) all.append(' ').append(x.down(h));
        for (int i = 0; i < 5; i++) all.append(' ').append(x.risk(i));
        return all.toString();
    }

    @Edge(of = 4, words = "A text that is taken tells all, in place of what there was (what it does not tell is as at first)")
    void p04WhatWasAskedOfTheTextBefore() {
        for (String before : WALLS) {
            for (String now : WALLS) {
                TwoOnWall x = Check.wall(before);
                plans(x);
                Check.type(x, now);
                x.text();
                due("the same of <" + now + "> behind <" + before + ">", plans(x).equals(plans(Check.wall(now))) ? 1 : 0, 1);
            }
        }
    }

    @Edge(of = 4, words = "4 at of a FOOT, rack of a size for the second time (it)")
    void p04EachTextTellsAnew() {
        StringBuilder most = new StringBuilder("top40;");
        for (int h = 1; h <= 40; h++) most.append("at").append(h).append(" 2;");
        for (int s = 1; s <= 10; s++) most.append("rack").append(s).append(" 3;");
        TwoOnWall x = new TwoOnWall();
        for (int round = 0; round < 3; round++) {
            Check.type(x, most.toString());
            due("text()", x.text(), 51);
        }
        due("foot(40, 0)", x.foot(40, 0), 2);
        due("rule(20)", x.rule(20), 3);
        Check.type(x, "top 40;strength 9;place 9;rope 9;give 9;fits 9 9;holds 9;low 9;");
        due("text()", x.text(), 8);
        due("foot(40, 0)", x.foot(40, 0), 1);
        for (int s = 11; s <= 20; s++) due("rule(" + s + ")", x.rule(s), 0);
        Check.type(x, "top 40;strength 9;place 9;rope 9;give 9;fits 9 9;holds 9;low 9;");
        due("text()", x.text(), 8);
    }

    @Edge(of = 4, words = "no PIECES, no TRIES; IMAGES are gone; SHEETS stay.")
    void p04WhatATextLeaves() {
        TwoOnWall x = used();
        Check.type(x, "top 9;rack 1 1;at 3 1 crack 1;");
        due("text()", x.text(), 3);
        int[] counts = {0, 1, 0, 0, 1, 0, 0, 0, 4};
        for (int i = 0; i < 9; i++) due("count(" + i + ")", x.count(i), counts[i]);
        due("torn()", x.torn(), 3);
        for (int i = 0; i < 2; i++) {
            due("back(" + i + ")", x.back(i), STATE);
            due("eye(" + i + ", 0)", x.eye(i, 0), NONE);
        }
        due("read of what the SHEET held", x.read(0, 0, 0, 1), 1);
        due("piece(0, 0)", x.piece(0, 0), 3);
        due("a PIECE that comes has no SLING", x.piece(0, 4), 0);
        x.tried(0, false);
        due("eye(0, 0), none held now", x.eye(0, 0), 0);
        due("lay(3, 0, 1)", x.lay(3, 0, 1), 1);
        due("lay(3, 1, 1)", x.lay(3, 1, 1), -12);
        due("lay(1, 0, 1)", x.lay(1, 0, 1), -11);
    }

    // ---- promise 5: fault.

    @Edge(of = 5, words = "The FAULT of the latest text(); 0.")
    void p05EachFaultAndNone() {
        TwoOnWall x = new TwoOnWall();
        due("fault() ahead of any text()", x.fault(), 0);
        String[] texts = {"?", "x", "low 10;", "low 1;low 1;", "at 21 1;", "low 1;"};
        int[] faults = {1, 2, 3, 4, 5, 0};
        for (int i = 0; i < 6; i++) {
            Check.type(x, texts[i]);
            due("fault() of the text before", x.fault(), i == 0 ? 0 : faults[i - 1]);
            x.text();
            due("fault() of " + texts[i], x.fault(), faults[i]);
            due("fault() again", x.fault(), faults[i]);
        }
        Check.type(x, "?");
        x.text();
        due("text() of nothing", x.text(), 0);
        due("fault() of nothing", x.fault(), 0);
    }

    // ---- promise 6: rule.

    @Edge(of = 6, words = "RULES 0 to 8; 10 and s: PIECES of size s (1 to 10) that THE RACK has now. BAD.")
    void p06WhatIsAskedAndWhatNot() {
        TwoOnWall x = Check.wall("top 40;strength 999;place 99;rope 60;give 50;fits 20 19;holds 60;low 9;rack 1 1;rack 10 5;");
        int[] due = {40, 999, 99, 60, 50, 20, 19, 60, 9, BAD, BAD, 1, 0, 0, 0, 0, 0, 0, 0, 0, 5, BAD};
        for (int what = 0; what <= 21; what++) due("rule(" + what + ")", x.rule(what), due[what]);
        int[] bad = {-1, -10, 22, 100, MIN, MIN + 1, MIN + 10, MIN + 11, MAX, MAX - 1};
        for (int what : bad) due("rule(" + what + ")", x.rule(what), BAD);
    }

    @Edge(of = 6, words = "10 and s: PIECES of size s (1 to 10) that THE RACK has now")
    void p06TheRackHasNow() {
        TwoOnWall x = Check.wall("rack 1 5;rack 10 1;at 1 1 crack 1;at 2 1 crack 10;");
        due("rule(11)", x.rule(11), 5);
        x.put(1, 1);
        x.put(2, 10);
        due("rule(11) behind put()", x.rule(11), 4);
        due("rule(20) behind put()", x.rule(20), 0);
        x.take(2);
        due("rule(20) behind take()", x.rule(20), 1);
        x.strip();
        due("rule(11) behind strip()", x.rule(11), 5);
    }

    // ---- promise 7: foot.

    @Edge(of = 7, words = "Of a FOOT (1 to TOP)")
    void p07OneToTop() {
        int[] tops = {1, 2, 20, 39, 40};
        for (int top : tops) {
            TwoOnWall x = Check.wall("top " + top + ";");
            due("foot(1, 0)", x.foot(1, 0), 1);
            due("foot(TOP, 0)", x.foot(top, 0), 1);
            int[] bad = {0, -1, top + 1, 41, MIN, MAX};
            for (int h : bad) due("foot(" + h + ", 0) of top " + top, x.foot(h, 0), BAD);
        }
        TwoOnWall x = Check.wall("top 40;at 40 7;");
        Check.type(x, "top 39;");
        x.text();
        due("foot(40, 0), TOP being less now", x.foot(40, 0), BAD);
    }

    @Edge(of = 7, words = "0 HARD, 1 CRACK, 2 whether a LEDGE, 3 whether a REST, 4 SIDE, 5 the PIECE there (its number; NONE). BAD.")
    void p07WhatIsAskedAndWhatNot() {
        TwoOnWall x = Check.wall("top 3;rack 9 1;at 1 0 side 9;at 2 9 crack 10 ledge rest side 0;");
        int[][] due = {{0, 0, 0, 0, 9, NONE}, {9, 10, 1, 1, 0, NONE}, {1, 0, 0, 0, 5, NONE}};
        for (int h = 1; h <= 3; h++) {
            for (int i = 0; i < 6; i++) due("foot(" + h + ", " + i + ")", x.foot(h, i), due[h - 1][i]);
        }
        x.put(2, 9);
        due("foot(2, 5)", x.foot(2, 5), 0);
        int[] bad = {-1, 6, MIN, MAX};
        for (int what : bad) due("foot(2, " + what + ")", x.foot(2, what), BAD);
    }
}
