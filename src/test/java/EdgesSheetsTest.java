/** Boundary cases of images and sheets: promises 33 to 39. */
public final class EdgesSheetsTest extends Edges {
    private static final int[] NO_SHEETS = {-1, 4, 5, MIN, MAX};
    private static final int[] NO_LANES = {-1, 3, MIN, MAX};

    public static void main(String[] args) {
        new EdgesSheetsTest().run(33, 39);
    }

    /** PIECES at 2 and 6 (this with a SLING), TRIES, and both IMAGES, otherwise than what is now. */
    private static TwoOnWall imaged() {
        TwoOnWall x = Check.wall(TWELVE);
        x.put(2, 1);
        x.put(6, 3);
        x.sling(6, true);
        x.tried(0, true);
        x.tried(0, false);
        x.tried(1, true);
        x.image(0);
        x.learn();
        x.strip();
        x.put(12, 2);
        x.image(1);
        x.put(1, 1);
        x.tried(1, false);
        x.learn();
        return x;
    }

    /** A SHEET of a lane, with these in its CELLS. */
    private static void lay(TwoOnWall x, int k, int lane, int... cells) {
        x.sheet(k, lane, cells.length);
        for (int i = 0; i < cells.length; i++) x.lay(k, i, cells[i]);
    }

    // ---- promise 33: image.

    @Edge(of = 33, words = "IMAGE i (0, 1) is all PIECES (SLINGS, THE RACK, too), TRIES, fits, nearly: whether there was one (1, 0). BAD.")
    void p33ZeroOrOne() {
        TwoOnWall x = Check.wall(TWELVE);
        int[] bad = {-1, 2, 3, MIN, MAX};
        for (int i : bad) due("image(" + i + ")", x.image(i), BAD);
        due("count(6)", x.count(6), 0);
        due("image(1)", x.image(1), 0);
        due("count(6)", x.count(6), 1);
        due("back(0)", x.back(0), STATE);
        due("image(0)", x.image(0), 0);
        due("image(0)", x.image(0), 1);
        due("image(1)", x.image(1), 1);
        due("count(6)", x.count(6), 2);
        for (int i : bad) due("image(" + i + ")", x.image(i), BAD);
    }

    @Edge(of = 33, words = "all PIECES (SLINGS, THE RACK, too), TRIES, fits, nearly")
    void p33OfNothingAndOfTen() {
        TwoOnWall x = Check.wall(TWELVE);
        x.image(0);
        for (int h = 1; h <= 10; h++) x.put(h, x.foot(h, 1));
        for (int h = 1; h <= 10; h++) x.sling(h, h % 2 == 0);
        x.image(1);
        due("back(0) to none", x.back(0), 0);
        due("count(4)", x.count(4), 15);
        due("back(1) to ten", x.back(1), 10);
        due("count(4)", x.count(4), 5);
        for (int k = 0; k < 10; k++) {
            due("piece(" + k + ", 0)", x.piece(k, 0), k + 1);
            due("piece(" + k + ", 1)", x.piece(k, 1), k / 4 + 1);
            due("piece(" + k + ", 4)", x.piece(k, 4), k % 2);
        }
        due("put(11, 3)", x.put(11, 3), FULL);
        x = Check.wall("rack 10 2;rack 1 3;at 1 1 crack 10;at 2 1 crack 1;");
        x.put(1, 10);
        x.image(0);
        x.strip();
        x.back(0);
        due("rule(20)", x.rule(20), 1);
        due("rule(11)", x.rule(11), 3);
    }

    @Edge(of = 33, words = "what is refused changes nothing (but THE TAPE, as told)")
    void p33RefusedChangesNothing() {
        changesNothing(EdgesSheetsTest::imaged, x -> {
            x.image(-1);
            x.image(2);
        });
    }

    // ---- promise 34: back.

    @Edge(of = 34, words = "All is as IMAGE i: how many PIECES. BAD; STATE: there is none.")
    void p34BadAndState() {
        TwoOnWall x = Check.wall(TWELVE);
        int[] bad = {-1, 2, 3, MIN, MAX};
        for (int i : bad) due("back(" + i + ")", x.back(i), BAD);
        due("back(0)", x.back(0), STATE);
        due("back(1)", x.back(1), STATE);
        x.image(0);
        due("back(0)", x.back(0), 0);
        due("back(1)", x.back(1), STATE);
        x.image(1);
        due("back(1)", x.back(1), 0);
        Check.type(x, "?");
        x.text();
        due("back(1) behind a text with a FAULT", x.back(1), 0);
        x.text();
        due("back(1) behind a text", x.back(1), STATE);
        due("back(0) behind a text", x.back(0), STATE);
    }

    @Edge(of = 34, words = "All is as IMAGE i")
    void p34AllIsAsItWas() {
        TwoOnWall x = imaged();
        due("rule(6) now: 1 of 2", x.rule(6), 10);
        due("back(0)", x.back(0), 2);
        int[][] pieces = {{2, 1, 18, 7, 0}, {6, 3, 10, 9, 1}};
        for (int k = 0; k < 2; k++) {
            for (int i = 0; i < 5; i++) due("piece(" + k + ", " + i + ")", x.piece(k, i), pieces[k][i]);
        }
        due("rule(5)", x.rule(5), 18);
        due("rule(6)", x.rule(6), 10);
        due("rule(11)", x.rule(11), 4);
        due("rule(12)", x.rule(12), 5);
        due("rule(13)", x.rule(13), 4);
        due("count(5)", x.count(5), 3);
        part("eye(0)", x.eye(0, 0), x.eye(0, 1), 1, 2);
        part("eye(1)", x.eye(1, 0), x.eye(1, 1), 1, 1);
        x.tried(0, true);
        x.tried(1, false);
        x.back(0);
        part("eye(0)", x.eye(0, 0), x.eye(0, 1), 1, 2);
        part("eye(1)", x.eye(1, 0), x.eye(1, 1), 1, 1);
        x.tried(0, true);
        x.tried(1, true);
        x.back(0);
        part("eye(0)", x.eye(0, 0), x.eye(0, 1), 1, 2);
        part("eye(1)", x.eye(1, 0), x.eye(1, 1), 1, 1);
        due("back(1)", x.back(1), 1);
        due("piece(0, 0)", x.piece(0, 0), 12);
        due("piece(0, 4)", x.piece(0, 4), 0);
        due("rule(5) as it was learnt", x.rule(5), 10);
        due("rule(6) as it was learnt", x.rule(6), 20);
        due("rule(12)", x.rule(12), 4);
        due("count(5)", x.count(5), 3);
        x.strip();
        x.tried(0, true);
        due("back(0): it stays as it was", x.back(0), 2);
        due("back(1): it stays as it was", x.back(1), 1);
        due("count(5)", x.count(5), 3);
    }

    @Edge(of = 34, words = "what is refused changes nothing (but THE TAPE, as told)")
    void p34RefusedChangesNothing() {
        changesNothing(EdgesSheetsTest::imaged, x -> {
            x.back(-1);
            x.back(2);
        });
        changesNothing(() -> {
            TwoOnWall x = Check.wall(TWELVE);
            x.put(2, 1);
            x.image(1);
            x.put(3, 2);
            x.tried(1, true);
            return x;
        }, x -> due("back(0)", x.back(0), STATE));
    }

    @Edge(of = 34, words = "All is as IMAGE i")
    void p34WhatAnImageIsNot() {
        TwoOnWall x = Check.wall(TWELVE);
        x.image(0);
        lay(x, 0, 1, 1, 1, 5);
        x.read(0, 1, 2, 1);
        x.feed(0x2020202020202020L);
        x.back(0);
        due("count(8): SHEETS are no part of it", x.count(8), 3);
        due("torn()", x.torn(), 2);
        due("count(7): nor THE TAPE", x.count(7), 8);
        due("count(6): nor the other IMAGE", x.count(6), 1);
    }

    // ---- promise 35: sheet.

    @Edge(of = 35, words = "SHEETS 0 to 3 are rows of BYTES (lane 0), SHORTS (1), INTS (2), all with a sign, with 0 to 40 CELLS, or nothing (at first).")
    void p35SheetsLanesAndCells() {
        TwoOnWall x = new TwoOnWall();
        for (int k = 0; k < 4; k++) {
            for (int lane = 0; lane < 3; lane++) {
                due("sheet(" + k + ", " + lane + ", 0)", x.sheet(k, lane, 0), 1);
                due("sheet(" + k + ", " + lane + ", 40)", x.sheet(k, lane, 40), 1);
                due("lay of the last CELL", x.lay(k, 39, 1), 1);
            }
            for (int lane : NO_LANES) due("sheet(" + k + ", " + lane + ", 1)", x.sheet(k, lane, 1), BAD);
        }
        for (int k : NO_SHEETS) due("sheet(" + k + ", 0, 1)", x.sheet(k, 0, 1), BAD);
        due("count(8)", x.count(8), 40);
    }

    @Edge(of = 35, words = "BAD: also n above 40; -14 (SIZE): n below 0.")
    void p35NAboveFortyAndBelowZero() {
        TwoOnWall x = new TwoOnWall();
        int[] above = {41, 42, 100, MAX};
        int[] below = {-1, -2, -40, MIN};
        for (int n : above) due("sheet(0, 0, " + n + ")", x.sheet(0, 0, n), BAD);
        for (int n : below) due("sheet(0, 0, " + n + ")", x.sheet(0, 0, n), -14);
        due("count(8)", x.count(8), NONE);
        due("BAD first: k", x.sheet(4, 0, -1), BAD);
        due("BAD first: lane", x.sheet(0, 3, -1), BAD);
        due("BAD first: lane", x.sheet(3, -1, MIN), BAD);
    }

    @Edge(of = 35, words = "A SHEET is a new row of CELLS 0: 1.")
    void p35ANewRowOfZeros() {
        TwoOnWall x = Check.wall("top 1;rack 1 2;at 1 1 crack 1;");
        lay(x, 0, 0, 1, 1);
        lay(x, 1, 0, 1, 1);
        due("sheet(0, 0, 4)", x.sheet(0, 0, 4), 1);
        due("count(8)", x.count(8), 4);
        x.lay(0, 0, 1);
        due("read of 1, 0", x.read(0, 0, 0, 1), -20);
        x.lay(0, 3, 1);
        due("read of 0, 1", x.read(0, 0, 2, 1), -20);
        due("read of the other SHEET", x.read(1, 0, 0, 1), 1);
        x.strip();
        x.sheet(1, 0, 2);
        x.lay(1, 1, 1);
        due("read of 0, 1", x.read(1, 0, 0, 1), -20);
        lay(x, 2, 2, 1, 1);
        x.sheet(2, 2, 2);
        x.lay(2, 0, 1);
        due("read of 1, 0", x.read(2, 2, 0, 1), -20);
        due("sheet(0, 2, 1)", x.sheet(0, 2, 1), 1);
        due("lay(0, 1, 1) of fewer", x.lay(0, 1, 1), -12);
        due("read by the former lane", x.read(0, 0, 0, 1), 0);
        due("torn()", x.torn(), 3);
        x.sheet(0, 2, 0);
        due("count(8): no CELL is not nothing", x.count(8), 0);
        due("lay(0, 0, 1)", x.lay(0, 0, 1), -12);
    }

    /** SHEETS of all lanes, a FAULT of read(). */
    private static TwoOnWall sheets() {
        TwoOnWall x = Check.wall(TWELVE);
        lay(x, 0, 0, 1, 1, 5, 2);
        lay(x, 1, 1, 9, 3, 1);
        lay(x, 2, 2);
        x.read(1, 1, 2, 1);
        x.put(12, 3);
        x.sling(12, true);
        return x;
    }

    @Edge(of = 35, words = "what is refused changes nothing (but THE TAPE, as told)")
    void p35RefusedChangesNothing() {
        changesNothing(EdgesSheetsTest::sheets, x -> {
            for (int k = 0; k < 4; k++) {
                x.sheet(k, 1, 41);
                x.sheet(k, 2, -1);
                x.sheet(k, 3, 2);
            }
        });
    }

    // ---- promise 36: lay.

    @Edge(of = 36, words = "CELL i of a SHEET becomes v (its lowest bits): 1. BAD: k; -10 less the FAULT: NULL, INDEX.")
    void p36SheetsAndCells() {
        TwoOnWall x = sheets();
        for (int k : NO_SHEETS) {
            due("lay(" + k + ", 0, 0)", x.lay(k, 0, 0), BAD);
            due("lay(" + k + ", -1, 0)", x.lay(k, -1, 0), BAD);
        }
        int[] n = {4, 3, 0};
        for (int k = 0; k < 3; k++) {
            for (int i = 0; i < 41; i++) due("lay(" + k + ", " + i + ", 0)", x.lay(k, i, 0), i < n[k] ? 1 : -12);
            int[] no = {-1, MIN, MAX};
            for (int i : no) due("lay(" + k + ", " + i + ", 0)", x.lay(k, i, 0), -12);
        }
        int[] any = {0, -1, 40, MIN, MAX};
        for (int i : any) due("lay(3, " + i + ", 0) of nothing", x.lay(3, i, 0), -11);
        x.sheet(3, 0, 40);
        due("lay(3, 39, 0)", x.lay(3, 39, 0), 1);
        due("lay(3, 40, 0)", x.lay(3, 40, 0), -12);
    }

    @Edge(of = 36, words = "becomes v (its lowest bits)")
    void p36ItsLowestBits() {
        // What is laid as FOOT 1, or as another FOOT that is refused.
        int[] v = {1, 257, -255, 65537, -65535, 65793, MIN + 1, 1 << 24 | 1, 129, 255, 0, 256, 32769, MAX, MIN};
        int[][] due = {
            {1, 1, 1, 1, 1, 1, 1, 1, 0, 0, 0, 0, 1, 0, 0},
            {1, 0, 0, 1, 1, 0, 1, 1, 0, 0, 0, 0, 0, 0, 0},
            {1, 0, 0, 0, 0, 0, 0, 0, 0, 0, 0, 0, 0, 0, 0}};
        for (int lane = 0; lane < 3; lane++) {
            for (int i = 0; i < v.length; i++) {
                TwoOnWall x = Check.wall(TWELVE);
                lay(x, 0, lane, v[i], 1);
                due("read of FOOT " + v[i] + " in lane " + lane, x.read(0, lane, 0, 1), due[lane][i] == 1 ? 1 : -20);
                x = Check.wall(TWELVE);
                lay(x, 0, lane, 1, v[i]);
                due("read of size " + v[i] + " in lane " + lane, x.read(0, lane, 0, 1), due[lane][i] == 1 ? 1 : -20);
            }
        }
    }

    @Edge(of = 36, words = "what is refused changes nothing (but THE TAPE, as told)")
    void p36RefusedChangesNothing() {
        changesNothing(EdgesSheetsTest::sheets, x -> {
            x.lay(-1, 0, 9);
            x.lay(4, 0, 9);
            x.lay(3, 0, 9);
            x.lay(0, -1, 9);
            x.lay(0, 4, 9);
            x.lay(2, 0, 9);
        });
    }

    // ---- promise 37: read.

    private void reads(TwoOnWall x, int k, int lane, int f, int n, int due, int torn) {
        String call = "read(" + k + ", " + lane + ", " + f + ", " + n + ")";
        due(call, x.read(k, lane, f, n), due);
        due("torn() behind " + call, x.torn(), torn);
    }

    @Edge(of = 37, words = "BAD: k, lane, n;")
    void p37BadNumbers() {
        TwoOnWall x = sheets();
        int[] ns = {-1, 11, 12, MIN, MAX};
        for (int k : NO_SHEETS) due("read(" + k + ", 0, 0, 1)", x.read(k, 0, 0, 1), BAD);
        for (int k : NO_SHEETS) due("read(" + k + ", 0, 0, 0)", x.read(k, 0, 0, 0), BAD);
        for (int lane : NO_LANES) due("read(0, " + lane + ", 0, 1)", x.read(0, lane, 0, 1), BAD);
        for (int lane : NO_LANES) due("read(3, " + lane + ", 0, 0)", x.read(3, lane, 0, 0), BAD);
        for (int n : ns) {
            due("read(0, 0, 0, " + n + ")", x.read(0, 0, 0, n), BAD);
            due("BAD ahead of NULL: read(3, 0, 0, " + n + ")", x.read(3, 0, 0, n), BAD);
        }
        due("torn() as it was", x.torn(), 2);
    }

    @Edge(of = 37, words = "of n 0: 0, no FAULT, whatever the SHEET is")
    void p37OfNoPieces() {
        int[] fs = {0, -1, 40, MIN, MAX};
        for (int f : fs) {
            for (int k = 0; k < 4; k++) {
                for (int lane = 0; lane < 3; lane++) reads(sheets(), k, lane, f, 0, 0, 0);
            }
        }
    }

    @Edge(of = 37, words = "What the machine refuses: those that were whole ahead come (its FAULT is asked by torn()")
    void p37WhatTheMachineRefuses() {
        TwoOnWall x = sheets();
        reads(x, 3, 0, 0, 1, 0, 1);
        reads(x, 3, 2, MIN, 10, 0, 1);
        reads(x, 0, 1, 0, 1, 0, 3);
        reads(x, 0, 2, MAX, 1, 0, 3);
        reads(x, 1, 0, 0, 1, 0, 3);
        reads(x, 2, 2, 0, 1, 0, 2);
        reads(x, 2, 1, 0, 1, 0, 3);
        int[] fs = {-1, -2, -3, 3, 4, 5, 39, 40, MIN, MIN + 1, MAX, MAX - 1};
        for (int f : fs) reads(x, 0, 0, f, 1, 0, 2);
        due("count(0)", x.count(0), 1);
        reads(x, 0, 0, 2, 2, 1, 2);
        due("count(0): the whole one came", x.count(0), 2);
        reads(x, 0, 0, 0, 1, 1, 0);
        x.strip();
        reads(x, 0, 0, 0, 10, 2, 2);
        due("count(0): the whole ones came", x.count(0), 2);
        x.strip();
        reads(x, 1, 1, 0, 2, 1, 2);
        due("piece(0, 0): of one and a half the one", x.piece(0, 0), 9);
    }

    @Edge(of = 37, words = "n (0 to 10) PIECES (FOOT, size) are read of a SHEET taken as of a lane, two CELLS each from CELL f on")
    void p37TenPiecesAndFortyCells() {
        int[] cells = new int[40];
        for (int i = 0; i < 10; i++) {
            cells[20 + 2 * i] = i + 1;
            cells[21 + 2 * i] = i / 4 + 1;
        }
        for (int lane = 0; lane < 3; lane++) {
            TwoOnWall x = Check.wall(TWELVE);
            lay(x, lane, lane, cells);
            reads(x, lane, lane, 20, 10, 10, 0);
            due("count(0)", x.count(0), 10);
            due("piece(9, 0)", x.piece(9, 0), 10);
            x.strip();
            reads(x, lane, lane, 22, 10, 9, 2);
            x.strip();
            reads(x, lane, lane, 38, 1, 1, 0);
            x.strip();
            reads(x, lane, lane, 39, 1, 0, 2);
        }
    }

    @Edge(of = 37, words = "-20 less i (from 0 on): PIECE i, whole, is refused by put() (in whichever way): then none came; the first met.")
    void p37RefusedByPutInWhicheverWay() {
        int[][] refused = {{0, 1}, {13, 1}, {-1, 1}, {4, 0}, {4, 11}, {4, -1}, {12, 3}, {4, 3}, {8, 4}, {1, 1}};
        for (int[] piece : refused) {
            for (int i = 0; i < 3; i++) {
                int[] cells = {1, 1, 5, 2, 9, 3, 10, 2};
                cells[2 * i + 2] = piece[0];
                cells[2 * i + 3] = piece[1];
                TwoOnWall x = Check.wall(TWELVE);
                x.put(12, 3);
                x.read(3, 0, 0, 1);
                lay(x, 0, 0, cells);
                reads(x, 0, 0, 0, 4, -21 - i, 1);
                due("count(0): none came", x.count(0), 1);
                due("count(4)", x.count(4), 14);
            }
        }
    }

    @Edge(of = 37, words = "one behind another as by put()")
    void p37FullAndNoneByThoseAhead() {
        TwoOnWall x = Check.wall(TWELVE);
        x.put(12, 2);
        lay(x, 0, 0, 1, 1, 2, 1, 3, 1, 4, 1, 5, 2, 6, 2, 7, 2, 8, 2, 9, 3, 10, 3);
        reads(x, 0, 0, 0, 10, -29, 0);
        due("FULL: none came", x.count(0), 1);
        reads(x, 0, 0, 0, 9, 9, 0);
        reads(x, 0, 0, 18, 1, -20, 0);
        x = Check.wall("top 3;rack 1 2;at 1 1 crack 1;at 2 1 crack 1;at 3 1 crack 1;");
        lay(x, 0, 0, 3, 1, 1, 1, 2, 1);
        reads(x, 0, 0, 0, 3, -22, 0);
        due("NONE: none came", x.count(0), 0);
        due("rule(11)", x.rule(11), 2);
        reads(x, 0, 0, 0, 2, 2, 0);
        x.strip();
        lay(x, 0, 0, 2, 1, 2, 1);
        reads(x, 0, 0, 0, 2, -21, 0);
        due("STATE by the one ahead: none came", x.count(0), 0);
    }

    @Edge(of = 37, words = "then none came; the first met")
    void p37TheFirstMet() {
        TwoOnWall x = Check.wall(TWELVE);
        lay(x, 0, 0, 1, 1, 1, 1, 13, 1, 2);
        reads(x, 0, 0, 0, 4, -21, 0);
        reads(x, 0, 0, 2, 3, -21, 0);
        reads(x, 0, 0, 4, 2, -20, 0);
        reads(x, 0, 0, 6, 2, 0, 2);
        lay(x, 0, 0, 1, 1, 2);
        reads(x, 0, 0, 0, 2, 1, 2);
        x.strip();
        lay(x, 0, 0, 1, 9, 2);
        reads(x, 0, 0, 0, 2, -20, 2);
        reads(x, 0, 1, 0, 1, 0, 3);
    }

    @Edge(of = 37, words = "what is refused changes nothing (but THE TAPE, as told)")
    void p37RefusedChangesNothing() {
        changesNothing(EdgesSheetsTest::sheets, x -> {
            x.read(4, 0, 0, 1);
            x.read(0, 3, 0, 1);
            x.read(0, 0, 0, 11);
            x.lay(0, 2, 12);
            due("read(0, 0, 0, 2)", x.read(0, 0, 0, 2), -21);
            x.lay(0, 2, 5);
        });
    }

    // ---- promise 38: torn.

    @Edge(of = 38, words = "The FAULT of the latest read() that answered 0 or more; 0 (one that is refused leaves it).")
    void p38OneThatIsRefusedLeavesIt() {
        TwoOnWall x = Check.wall(TWELVE);
        due("torn() ahead of any", x.torn(), 0);
        lay(x, 0, 0, 1, 1, 13);
        lay(x, 1, 1, 1, 1);
        int[][] faults = {{3, 0, 0, 1, 1}, {0, 0, 2, 1, 2}, {1, 0, 0, 1, 3}, {3, 0, 0, 0, 0}};
        for (int[] of : faults) {
            due("read", x.read(of[0], of[1], of[2], of[3]), 0);
            due("torn()", x.torn(), of[4]);
            due("torn() again", x.torn(), of[4]);
            due("BAD", x.read(-1, 0, 0, 1), BAD);
            due("torn() behind BAD", x.torn(), of[4]);
            x.put(1, 1);
            due("refused by put()", x.read(0, 0, 0, 1), -20);
            due("torn() behind what put() refuses", x.torn(), of[4]);
            x.strip();
        }
        x.read(3, 0, 0, 1);
        due("one that comes", x.read(1, 1, 0, 1), 1);
        due("torn() behind one that comes", x.torn(), 0);
    }

    @Edge(of = 38, words = "A FAULT is what the machine finds: 1 NULL (nothing), 2 INDEX, 3 CAST (another lane), 4 SIZE (below 0).")
    void p38WhatTheMachineFinds() {
        for (int is = -1; is < 3; is++) {
            for (int lane = 0; lane < 3; lane++) {
                TwoOnWall x = Check.wall(TWELVE);
                if (is >= 0) lay(x, 1, is, 1, 1);
                int due = is < 0 ? 1 : is != lane ? 3 : 0;
                due("SIZE makes no row and is no FAULT of read()", x.sheet(1, lane, -1), -14);
                due("read of lane " + lane, x.read(1, lane, 0, 1), due == 0 ? 1 : 0);
                due("torn()", x.torn(), due);
                due("read beyond", x.read(1, lane, 1, 1), 0);
                due("torn()", x.torn(), due == 0 ? 2 : due);
            }
        }
    }

    @Edge(of = 38, words = "The FAULT of the latest read() that answered 0 or more; 0")
    void p38OtherCallsLeaveIt() {
        TwoOnWall x = Check.wall(TWELVE);
        x.image(0);
        x.read(3, 0, 0, 1);
        x.sheet(3, 0, 2);
        x.lay(3, 9, 1);
        x.sheet(3, 0, -1);
        x.back(0);
        x.strip();
        x.text();
        Check.type(x, "?");
        x.text();
        due("torn()", x.torn(), 1);
    }

    // ---- promise 39: count.

    @Edge(of = 39, words = "How many: 0 PIECES, 1 CRACKS, 2 LEDGES, 3 RESTS, 4 PIECES in THE RACK now, 5 TRIES, 6 IMAGES, 7 bytes on THE TAPE, 8 CELLS of SHEET 0 (NONE: nothing). BAD.")
    void p39WhatIsAskedAndWhatNot() {
        TwoOnWall x = new TwoOnWall();
        int[] first = {0, 0, 0, 0, 0, 0, 0, 0, NONE};
        for (int i = 0; i < 9; i++) due("count(" + i + ") of a new one", x.count(i), first[i]);
        int[] bad = {-1, 9, 10, MIN, MAX};
        for (int what : bad) due("count(" + what + ")", x.count(what), BAD);
        x = Check.wall("top 3;rack 1 5;rack 2 4;at 1 1 crack 1;at 2 1 crack 2 ledge;at 3 1 crack 3 ledge rest;");
        x.put(3, 2);
        x.put(1, 2);
        x.tried(0, true);
        x.tried(1, true);
        x.tried(1, false);
        x.image(1);
        x.feed(0);
        x.end(5);
        x.sheet(0, 2, 6);
        x.sheet(1, 0, 7);
        int[] due = {2, 3, 2, 1, 7, 3, 1, 5, 6};
        for (int i = 0; i < 9; i++) due("count(" + i + ")", x.count(i), due[i]);
        for (int what : bad) due("count(" + what + ")", x.count(what), BAD);
    }

    @Edge(of = 39, words = "How many:")
    void p39AsManyAsMayBe() {
        StringBuilder b = new StringBuilder("top20;");
        for (int h = 1; h <= 20; h++) b.append("at").append(h).append(" 1ledge rest;");
        TwoOnWall x = Check.wall(b.toString());
        due("count(2)", x.count(2), 20);
        due("count(3)", x.count(3), 20);
        b = new StringBuilder("top40;");
        for (int h = 14; h <= 40; h++) b.append("at").append(h).append(" 1crack1;");
        x = Check.wall(b.toString());
        due("count(1), TOP's too", x.count(1), 27);
        b = new StringBuilder();
        for (int s = 1; s <= 10; s++) b.append("rack").append(s).append(" 5;");
        x = Check.wall(b.toString());
        due("count(4)", x.count(4), 50);
        x.image(0);
        x.image(1);
        due("count(6)", x.count(6), 2);
        for (int i = 0; i < 51; i++) x.feed(0);
        due("count(7)", x.count(7), 400);
        x.sheet(0, 0, 40);
        due("count(8)", x.count(8), 40);
    }

    @Edge(of = 39, words = "8 CELLS of SHEET 0 (NONE: nothing)")
    void p39CellsOfSheetZero() {
        TwoOnWall x = new TwoOnWall();
        for (int k = 1; k < 4; k++) x.sheet(k, 0, 5);
        due("count(8), other SHEETS being there", x.count(8), NONE);
        x.sheet(0, 0, 0);
        due("count(8) of no CELL", x.count(8), 0);
        x.sheet(0, 1, 1);
        due("count(8)", x.count(8), 1);
    }
}
