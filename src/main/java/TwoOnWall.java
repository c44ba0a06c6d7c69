/**
 * Two on a wall, as ../shared/DOC.md tells it: the wall is told by a text, a leader puts pieces
 * into its cracks, and the object answers what falls, ropes and plans come to.
 *
 * <p>All rows are made once, with the object: no call makes an object or an array.
 */
public final class TwoOnWall {
    public static final int BAD = -1, STATE = -2, FULL = -3, NONE = -4;

    private static final int MOST_FEET = 40;
    private static final int MOST_PIECES = 10;
    private static final int SIZES = 10;
    private static final int IN_ALL = 20;
    private static final int MOST_TRIES = 999;
    private static final int MOST_CELLS = 40;
    private static final int TAPE_BYTES = 400;
    /** What is asked of a row begins here: 10 and i. */
    private static final int ROW = 10;
    private static final int NULL = 1, INDEX = 2, CAST = 3, SIZE = 4;

    private final Wall wall = new Wall();
    private final Tape tape = new Tape();
    private final Hand hand = new Hand();
    private final Hand image0 = new Hand();
    private final Hand image1 = new Hand();
    private final Hand undone = new Hand();
    private final Fall fall = new Fall();
    private final Leader leader = new Leader(wall);
    private final Chances chances = new Chances(wall);
    private final Planner planner = new Planner(wall, leader);
    private final Route route = new Route(wall);
    private final Bolts bolts = new Bolts(wall);
    private final Sheet[] sheets = new Sheet[4];
    private int textFault = 0;
    private int readFault = 0;

    public TwoOnWall() {
        for (int k = 0; k < sheets.length; k++) sheets[k] = new Sheet();
        hand.begin(wall);
    }

    // ---- the text, the wall.

    public int feed(long v) {
        return tape.append(v) ? tape.length : FULL;
    }

    public int end(int n) {
        if (n < 0 || n > tape.length) return BAD;
        int had = tape.length;
        tape.length = n;
        return had;
    }

    public int text() {
        tape.readAll();
        tape.length = 0;
        textFault = tape.fault;
        if (textFault != 0) return -10 - tape.place;
        wall.copyOf(tape.draft);
        hand.begin(wall);
        image0.kept = false;
        image1.kept = false;
        planner.forget();
        route.forget();
        bolts.forget();
        return tape.lines;
    }

    public int fault() {
        return textFault;
    }

    public int rule(int what) {
        if (what == Wall.FITS) return hand.fits;
        if (what == Wall.NEARLY) return hand.nearly;
        if (what >= 0 && what < Wall.RULES) return wall.rules[what];
        int size = what - 10;
        return what > 10 && size <= SIZES ? hand.rack[size] : BAD;
    }

    public int foot(int h, int what) {
        if (!wall.isFoot(h)) return BAD;
        switch (what) {
            case 0: return wall.hard[h];
            case 1: return wall.crack[h];
            case 2: return wall.ledge[h];
            case 3: return wall.rest[h];
            case 4: return wall.side[h];
            case 5: return hand.row.at(h);
            default: return BAD;
        }
    }

    // ---- pieces.

    public int put(int h, int size) {
        return hand.place(wall, h, size);
    }

    public int take(int h) {
        if (!wall.isFoot(h)) return BAD;
        int k = hand.row.at(h);
        return k < 0 ? NONE : hand.takeOut(k);
    }

    public int sling(int h, boolean is) {
        if (!wall.isFoot(h)) return BAD;
        int k = hand.row.at(h);
        if (k < 0) return NONE;
        int had = hand.row.sling[k];
        hand.row.sling[k] = is ? 1 : 0;
        return had;
    }

    public int piece(int k, int what) {
        Row row = hand.row;
        if (k < 0 || k >= row.n) return BAD;
        switch (what) {
            case 0: return row.foot[k];
            case 1: return row.size[k];
            case 2: return hand.chance(wall, k);
            case 3: return row.size[k] + wall.rules[Wall.HOLDS];
            case 4: return row.sling[k];
            case 5: return row.isLifted(wall, k) ? 1 : 0;
            case 6: return row.counted(wall, k);
            default: return BAD;
        }
    }

    public int strip() {
        return hand.takeAll();
    }

    // ---- falls.

    public int fall(int h, int good, int what) {
        if (!wall.isFoot(h) || !hand.row.has(good)) return BAD;
        fall.from(wall, hand.row, h, good);
        switch (what) {
            case 0: return Math.max(0, fall.stop);
            case 1: return fall.holder;
            case 2: return fall.pull;
            case 3: return fall.pops;
            case 4: return fall.struck;
            case 5: return fall.harm;
            default: return BAD;
        }
    }

    public long harm(int h, int d, int what) {
        if (!wall.isFoot(h) || d < 1 || d > MOST_FEET || !isPart(what)) return BAD;
        chances.spread(hand, h, d);
        return chances.part(what);
    }

    public long mean(int h, int what) {
        if (!wall.isFoot(h) || !isPart(what)) return BAD;
        chances.spread(hand, h, 0);
        return chances.part(what);
    }

    public int risk(int what) {
        if (what < 0 || what > 4) return BAD;
        Row row = hand.row;
        if (what == 0) return leader.riskOf(row, row.all());
        if (what <= 2) {
            leader.climbAll(row);
            if (what == 1) return leader.effort;
            return leader.tooMuch > 0 ? leader.tooMuch : NONE;
        }
        leader.findWorst(row);
        if (what == 4) return leader.worstHarm;
        return leader.worstFoot > 0 ? leader.worstFoot : NONE;
    }

    public int needless() {
        Row row = hand.row;
        int risk = leader.riskOf(row, row.all());
        int bits = 0;
        // A PIECE that is not good stops nothing, as one that is not there.
        for (int k = 0; k < row.n; k++) {
            if (leader.riskOf(row, row.all() & ~(1 << k)) <= risk) bits |= 1 << k;
        }
        return bits;
    }

    // ---- plans.

    public int plan(int what) {
        planner.findPlan();
        int size = planner.planned ? planner.plan.n : 0;
        if (!isOf(what, 2, size)) return BAD;
        if (!planner.planned) return NONE;
        if (what == 0) return planner.planRisk;
        return what == 1 ? size : planner.plan.foot[what - ROW];
    }

    public int keep(int r, int what) {
        if (r < 1 || r > MOST_FEET || what < 0 || what > 2) return BAD;
        planner.follow(r);
        if (what == 0) return planner.ruleRisk();
        return what == 1 ? planner.ruleSize() : planner.ruleIsTooMuch() ? 1 : 0;
    }

    public int best(int what) {
        if (what < 0 || what > 2) return BAD;
        planner.findBest();
        if (!planner.planned || planner.bestRule == 0) return NONE;
        if (what == 0) return planner.bestRule;
        return what == 1 ? planner.bestRisk : planner.bestRisk - planner.planRisk;
    }

    public int adopt() {
        planner.findPlan();
        if (!planner.planned) return NONE;
        hand.takeAll();
        Row plan = planner.plan;
        for (int k = 0; k < plan.n; k++) hand.place(wall, plan.foot[k], plan.size[k]);
        return hand.row.n;
    }

    // ---- the rope.

    public int drag(int what) {
        Row row = hand.row;
        switch (what) {
            case 0: return row.dragOf(wall);
            case 1: return row.liftedOf(wall);
            case 2: return wall.top() + row.dragOf(wall) / 10;
            default: return BAD;
        }
    }

    public int slings(int n, int what) {
        if (n < 0 || n > MOST_PIECES || !isPart(what)) return BAD;
        int bits = hand.row.bestSlings(wall, n);
        return what == 0 ? hand.row.dragWith(wall, bits) : bits;
    }

    public int pitches(int what) {
        route.findPitches();
        if (!isOf(what, 1, route.n)) return BAD;
        if (route.n == 0) return NONE;
        return what == 0 ? route.n : route.ends[what - ROW];
    }

    public int leads(int a, int b, boolean turns, int what) {
        if (a < 1 || a > 9 || b < 1 || b > 9) return BAD;
        route.findPitches();
        if (!isOf(what, 1, route.n)) return BAD;
        if (route.n == 0) return NONE;
        if (turns) route.takeTurns(a, b);
        else route.leadFreely(a, b);
        return what == 0 ? route.cost : route.who[what - ROW];
    }

    public int down(int h) {
        if (h != 0 && !wall.isFoot(h)) return BAD;
        int left = route.leftFrom(h);
        return left < 0 ? NONE : left;
    }

    // ---- what an eye is worth.

    public int tried(int seen, boolean held) {
        if (!isPart(seen)) return BAD;
        if (hand.tries() >= MOST_TRIES) return FULL;
        hand.seen[seen]++;
        if (held) hand.held[seen]++;
        return hand.seen[seen];
    }

    public int eye(int seen, int what) {
        if (!isPart(seen) || !isPart(what)) return BAD;
        if (hand.seen[seen] == 0) return NONE;
        chances.fraction(hand.held[seen], hand.seen[seen]);
        return (int) chances.part(what);
    }

    public int learn() {
        int fits = hand.learned(0, hand.fits);
        int nearly = hand.learned(1, hand.nearly);
        int others = (fits != hand.fits ? 1 : 0) + (nearly != hand.nearly ? 1 : 0);
        hand.fits = fits;
        hand.nearly = nearly;
        return others;
    }

    // ---- stories, bolts.

    public long story(int popped, int hung) {
        if (!isStory(popped, hung)) return BAD;
        long feet = 0;
        for (int h = 1; h <= wall.top(); h++) {
            fall.from(wall, hand.row, h, hand.row.all() & ~popped);
            if (fall.isSo(popped, hung)) feet |= 1L << h;
        }
        return feet;
    }

    public long odds(int popped, int hung, int h, int what) {
        if (!isStory(popped, hung) || !wall.isFoot(h) || !isPart(what)) return BAD;
        long all = 0;
        long here = 0;
        for (int from = 1; from <= wall.top(); from++) {
            long likely = chances.ofStory(hand, from, popped, hung);
            all += likely;
            if (from == h) here = likely;
        }
        if (all == 0) return NONE;
        chances.fraction(here, all);
        return chances.part(what);
    }

    public int bolts(int what) {
        bolts.find();
        if (!isOf(what, 1, bolts.n)) return BAD;
        if (!bolts.any) return NONE;
        return what == 0 ? bolts.n : bolts.feet[what - ROW];
    }

    // ---- images, sheets.

    public int image(int i) {
        if (!isPart(i)) return BAD;
        Hand image = i == 0 ? image0 : image1;
        int had = image.kept ? 1 : 0;
        image.copyOf(hand);
        image.kept = true;
        return had;
    }

    public int back(int i) {
        if (!isPart(i)) return BAD;
        Hand image = i == 0 ? image0 : image1;
        if (!image.kept) return STATE;
        hand.copyOf(image);
        return hand.row.n;
    }

    public int sheet(int k, int lane, int n) {
        if (!isSheet(k) || !isLane(lane) || n > MOST_CELLS) return BAD;
        if (n < 0) return -10 - SIZE;
        sheets[k].begin(lane, n);
        return 1;
    }

    public int lay(int k, int i, int v) {
        if (!isSheet(k)) return BAD;
        Sheet sheet = sheets[k];
        if (!sheet.is) return -10 - NULL;
        if (!sheet.has(i)) return -10 - INDEX;
        sheet.set(i, v);
        return 1;
    }

    public int read(int k, int lane, int f, int n) {
        if (!isSheet(k) || !isLane(lane) || n < 0 || n > MOST_PIECES) return BAD;
        Sheet sheet = sheets[k];
        int met = 0;
        int came = 0;
        if (n > 0) met = !sheet.is ? NULL : sheet.lane != lane ? CAST : 0;
        undone.copyOf(hand);
        for (int i = 0; i < n && met == 0; i++) {
            int cell = f + 2 * i;
            if (!sheet.has(cell) || !sheet.has(cell + 1)) {
                met = INDEX;
            } else if (hand.place(wall, sheet.cells[cell], sheet.cells[cell + 1]) < 0) {
                hand.copyOf(undone);
                return -20 - i;
            } else {
                came++;
            }
        }
        readFault = met;
        return came;
    }

    public int torn() {
        return readFault;
    }

    public int count(int what) {
        switch (what) {
            case 0: return hand.row.n;
            case 1: return wall.countOf(wall.crack);
            case 2: return wall.countOf(wall.ledge);
            case 3: return wall.countOf(wall.rest);
            case 4: return hand.inRack();
            case 5: return hand.tries();
            case 6: return (image0.kept ? 1 : 0) + (image1.kept ? 1 : 0);
            case 7: return tape.length;
            case 8: return sheets[0].is ? sheets[0].n : NONE;
            default: return BAD;
        }
    }

    // ---- what the calls test.

    /** Of two things numbered 0 and 1. */
    private static boolean isPart(int what) {
        return what == 0 || what == 1;
    }

    /** One of the first few, or of a row with so many. */
    private static boolean isOf(int what, int few, int many) {
        return what >= 0 && what < few || what >= ROW && what - ROW < many;
    }

    private boolean isStory(int popped, int hung) {
        return hand.row.has(popped) && (hung == 0 || wall.isFoot(hung));
    }

    private boolean isSheet(int k) {
        return k >= 0 && k < sheets.length;
    }

    private static boolean isLane(int lane) {
        return lane >= Sheet.BYTES && lane <= Sheet.INTS;
    }

    // ---- the classes inside.

    /** THE WALL, all RULES and THE RACK, as a text tells them. */
    private static final class Wall {
        static final int TOP = 0, STRENGTH = 1, PLACE = 2, ROPE = 3, GIVE = 4;
        static final int FITS = 5, NEARLY = 6, HOLDS = 7, LOW = 8, RULES = 9;
        private static final int[] FIRST = {20, 200, 10, 40, 10, 18, 10, 6, 2};

        final int[] rules = new int[RULES];
        final int[] rack = new int[SIZES + 1];
        final int[] hard = new int[MOST_FEET + 1];
        final int[] crack = new int[MOST_FEET + 1];
        final int[] ledge = new int[MOST_FEET + 1];
        final int[] rest = new int[MOST_FEET + 1];
        final int[] side = new int[MOST_FEET + 1];
        /** The highest LEDGE below a FOOT; 0, the ground, if there is none. */
        final int[] below = new int[MOST_FEET + 1];

        Wall() {
            begin();
        }

        void begin() {
            for (int i = 0; i < RULES; i++) rules[i] = FIRST[i];
            for (int s = 0; s <= SIZES; s++) rack[s] = 0;
            for (int h = 0; h <= MOST_FEET; h++) {
                hard[h] = 1;
                crack[h] = 0;
                ledge[h] = 0;
                rest[h] = 0;
                side[h] = 5;
                below[h] = 0;
            }
        }

        void copyOf(Wall other) {
            for (int i = 0; i < RULES; i++) rules[i] = other.rules[i];
            for (int s = 0; s <= SIZES; s++) rack[s] = other.rack[s];
            int highest = 0;
            for (int h = 0; h <= MOST_FEET; h++) {
                hard[h] = other.hard[h];
                crack[h] = other.crack[h];
                ledge[h] = other.ledge[h];
                rest[h] = other.rest[h];
                side[h] = other.side[h];
                below[h] = highest;
                if (ledge[h] != 0) highest = h;
            }
        }

        int top() {
            return rules[TOP];
        }

        boolean isFoot(int h) {
            return h >= 1 && h <= rules[TOP];
        }

        boolean isStance(int h) {
            return isFoot(h) && (h == rules[TOP] || ledge[h] != 0 || rest[h] != 0);
        }

        int countOf(int[] feet) {
            int n = 0;
            for (int h = 1; h <= rules[TOP] && h < feet.length; h++) {
                if (feet[h] != 0) n++;
            }
            return n;
        }

        int dropOf(int h, int foot) {
            return 2 * (h - foot) + rules[GIVE] * h / 100;
        }

        int pullOf(int h, int drop) {
            return h < 1 ? 2 : 2 + 10 * drop / h;
        }

        boolean holds(int size, int pull) {
            return pull <= size + rules[HOLDS];
        }

        /** What is STRUCK in a FALL from h that is stopped at stop; NONE. */
        int struckOf(int h, int stop) {
            return below[h] >= stop ? below[h] : NONE;
        }

        int harmOf(int h, int stop) {
            return below[h] >= stop ? h - below[h] : 0;
        }
    }

    /** THE TAPE, and the reading of its text. */
    private static final class Tape {
        private static final int END = 0, NAME = 1, NUMBER = 2, SIGN = 3;
        private static final int AT = 9, RACK = 10;
        private static final int CRACK = 0, LEDGE = 1, REST = 2, SIDE = 3;
        private static final int[] LEAST = {1, 1, 0, 1, 0, 0, 0, 0, 0};
        private static final int[] MOST = {40, 999, 99, 60, 50, 20, 20, 60, 9};

        private final byte[] bytes = new byte[TAPE_BYTES];
        private final boolean[] toldFoot = new boolean[MOST_FEET + 1];
        private final boolean[] toldSize = new boolean[SIZES + 1];
        private int toldRules;
        private int highest;
        private int next;
        private int kind;
        private int start;
        private int value;
        final Wall draft = new Wall();
        int length = 0;
        int fault = 0;
        int place = 0;
        int lines = 0;

        Tape() {
        }

        boolean append(long v) {
            if (length > TAPE_BYTES - 8) return false;
            for (int i = 0; i < 8; i++) bytes[length + i] = (byte) (v >>> (56 - 8 * i));
            length += 8;
            return true;
        }

        /** The whole text; afterwards fault and place tell whether it was one, lines how many. */
        void readAll() {
            begin();
            advance();
            for (int i = 0; i < TAPE_BYTES && fault == 0 && kind != END; i++) {
                line();
                lines++;
            }
            if (fault == 0 && highest > draft.top()) fail(5, length);
        }

        private void begin() {
            draft.begin();
            for (int h = 0; h <= MOST_FEET; h++) toldFoot[h] = false;
            for (int s = 0; s <= SIZES; s++) toldSize[s] = false;
            toldRules = 0;
            highest = 0;
            next = 0;
            fault = 0;
            place = 0;
            lines = 0;
        }

        private void fail(int which, int where) {
            if (fault != 0) return;
            fault = which;
            place = where;
        }

        // ---- TOKENS.

        /** The TOKEN that stands is taken: the next one is read. */
        private void advance() {
            if (fault != 0) return;
            for (int i = 0; i < TAPE_BYTES && byteAt(next) == ' '; i++) next++;
            start = next;
            int sign = byteAt(next);
            if (sign < 0) kind = END;
            else if (isLetter(sign)) readName();
            else if (isFigure(sign)) readNumber();
            else if (sign == ';') readSign();
            else fail(1, start);
        }

        /** -1 behind the last one. */
        private int byteAt(int i) {
            return i >= 0 && i < length && i < TAPE_BYTES ? bytes[i] & 255 : -1;
        }

        private static boolean isLetter(int sign) {
            return sign >= 'a' && sign <= 'z';
        }

        private static boolean isFigure(int sign) {
            return sign >= '0' && sign <= '9';
        }

        private void readName() {
            kind = NAME;
            for (int i = 0; i < TAPE_BYTES && isLetter(byteAt(next)); i++) next++;
        }

        private void readNumber() {
            kind = NUMBER;
            value = 0;
            for (int i = 0; i < TAPE_BYTES && isFigure(byteAt(next)); i++) {
                // Beyond three figures only the length counts, so that nothing wraps around.
                if (i < 3) value = 10 * value + byteAt(next) - '0';
                next++;
            }
            if (next - start > 3) fail(1, start);
        }

        private void readSign() {
            kind = SIGN;
            next++;
        }

        private boolean isName(String name) {
            if (kind != NAME || next - start != name.length()) return false;
            for (int i = 0; i < name.length(); i++) {
                if (byteAt(start + i) != name.charAt(i)) return false;
            }
            return true;
        }

        // ---- lines.

        private int lineName() {
            if (isName("at")) return AT;
            if (isName("rack")) return RACK;
            if (isName("top")) return Wall.TOP;
            if (isName("strength")) return Wall.STRENGTH;
            if (isName("place")) return Wall.PLACE;
            if (isName("rope")) return Wall.ROPE;
            if (isName("give")) return Wall.GIVE;
            if (isName("fits")) return Wall.FITS;
            if (isName("holds")) return Wall.HOLDS;
            return isName("low") ? Wall.LOW : -1;
        }

        private int withName() {
            if (isName("crack")) return CRACK;
            if (isName("ledge")) return LEDGE;
            if (isName("rest")) return REST;
            return isName("side") ? SIDE : -1;
        }

        private void line() {
            int name = lineName();
            if (name < 0) {
                fail(2, start);
            } else if (name == AT) {
                advance();
                footLine();
            } else if (name == RACK) {
                advance();
                rackLine();
            } else {
                ruleLine(name);
            }
            lineEnd();
        }

        private void lineEnd() {
            if (kind != SIGN) fail(2, start);
            advance();
        }

        /** The NUMBER that stands, looked at but not taken; the least, if there is a FAULT. */
        private int number(int least, int most) {
            if (fault != 0) return least;
            if (kind != NUMBER) fail(2, start);
            else if (value < least || value > most) fail(3, start);
            return fault == 0 ? value : least;
        }

        private void footLine() {
            int h = number(1, MOST_FEET);
            if (toldFoot[h]) fail(4, start);
            if (fault != 0) return;
            toldFoot[h] = true;
            highest = Math.max(highest, h);
            advance();
            draft.hard[h] = number(0, 9);
            advance();
            int told = 0;
            for (int i = 0; i < TAPE_BYTES && fault == 0 && kind != SIGN; i++) {
                int with = withName();
                if (with < 0) fail(2, start);
                else if ((told >> with & 1) != 0) fail(4, start);
                else readWith(h, with);
                if (with >= 0) told |= 1 << with;
            }
        }

        private void readWith(int h, int with) {
            advance();
            if (with == LEDGE) {
                draft.ledge[h] = 1;
            } else if (with == REST) {
                draft.rest[h] = 1;
            } else if (with == CRACK) {
                draft.crack[h] = number(1, SIZES);
                advance();
            } else {
                draft.side[h] = number(0, 9);
                advance();
            }
        }

        private void rackLine() {
            int size = number(1, SIZES);
            if (toldSize[size]) fail(4, start);
            if (fault != 0) return;
            toldSize[size] = true;
            advance();
            draft.rack[size] = number(0, 5);
            advance();
        }

        private void ruleLine(int name) {
            if ((toldRules >> name & 1) != 0) fail(4, start);
            toldRules |= 1 << name;
            advance();
            draft.rules[name] = number(LEAST[name], MOST[name]);
            advance();
            if (name != Wall.FITS) return;
            draft.rules[Wall.NEARLY] = number(LEAST[Wall.NEARLY], MOST[Wall.NEARLY]);
            advance();
        }
    }

    /** PIECES in their CRACKS, from below, and the rope through them. */
    private static final class Row {
        int n = 0;
        final int[] foot = new int[MOST_PIECES];
        final int[] size = new int[MOST_PIECES];
        final int[] sling = new int[MOST_PIECES];

        Row() {
        }

        void copyOf(Row other) {
            n = other.n;
            for (int k = 0; k < MOST_PIECES; k++) {
                foot[k] = other.foot[k];
                size[k] = other.size[k];
                sling[k] = other.sling[k];
            }
        }

        int all() {
            return (1 << n) - 1;
        }

        /** Whether these bits are of PIECES alone. */
        boolean has(int bits) {
            return (bits & ~all()) == 0;
        }

        /** The number of the PIECE at a FOOT; NONE. */
        int at(int h) {
            for (int k = 0; k < n; k++) {
                if (foot[k] == h) return k;
            }
            return NONE;
        }

        /** The number of the lowest PIECE at a FOOT or above; n, if there is none. */
        int firstFrom(int h) {
            int k = n;
            while (k > 0 && foot[k - 1] >= h) k--;
            return k;
        }

        /** A PIECE more, without a SLING: its number; NONE, if there are as many as may be. */
        int insert(int h, int ofSize) {
            if (n >= MOST_PIECES) return NONE;
            int k = n;
            for (; k > 0 && foot[k - 1] > h; k--) {
                foot[k] = foot[k - 1];
                size[k] = size[k - 1];
                sling[k] = sling[k - 1];
            }
            foot[k] = h;
            size[k] = ofSize;
            sling[k] = 0;
            n++;
            return k;
        }

        void remove(int k) {
            if (k < 0 || k >= n) return;
            n--;
            for (int i = k; i < n; i++) {
                foot[i] = foot[i + 1];
                size[i] = size[i + 1];
                sling[i] = sling[i + 1];
            }
        }

        private int sideOf(Wall wall, int k) {
            if (k < 0) return 5;
            return wall.side[k < n ? foot[k] : wall.top()];
        }

        /** Twice how far the SIDE of a PIECE is off, as it would be without a SLING. */
        private int off(Wall wall, int k) {
            return Math.abs(2 * sideOf(wall, k) - sideOf(wall, k - 1) - sideOf(wall, k + 1));
        }

        int counted(Wall wall, int k) {
            return sling[k] != 0 ? off(wall, k) / 2 : off(wall, k);
        }

        int dragOf(Wall wall) {
            int sum = 0;
            for (int k = 0; k < n; k++) sum += counted(wall, k);
            return sum;
        }

        /** DRAG, if these PIECES have SLINGS and the others none. */
        int dragWith(Wall wall, int bits) {
            int sum = 0;
            for (int k = 0; k < n; k++) {
                sum += (bits >> k & 1) != 0 ? off(wall, k) / 2 : off(wall, k);
            }
            return sum;
        }

        /** A SLING helps its own PIECE alone, so the best are those that help most each. */
        int bestSlings(Wall wall, int most) {
            int bits = 0;
            for (int i = 0; i < most && i < n; i++) {
                int best = -1;
                int saved = 0;
                for (int k = 0; k < n; k++) {
                    int saves = off(wall, k) - off(wall, k) / 2;
                    if ((bits >> k & 1) == 0 && saves > saved) {
                        best = k;
                        saved = saves;
                    }
                }
                if (best >= 0) bits |= 1 << best;
            }
            return bits;
        }

        boolean isLifted(Wall wall, int k) {
            int toBelow = sideOf(wall, k - 1) - sideOf(wall, k);
            int toAbove = sideOf(wall, k + 1) - sideOf(wall, k);
            boolean oneSide = toBelow >= 2 && toAbove >= 2 || toBelow <= -2 && toAbove <= -2;
            return oneSide && sling[k] == 0;
        }

        int liftedOf(Wall wall) {
            int bits = 0;
            for (int k = 0; k < n; k++) {
                if (isLifted(wall, k)) bits |= 1 << k;
            }
            return bits;
        }
    }

    /** All that an IMAGE keeps: PIECES, THE RACK, TRIES, fits, nearly. */
    private static final class Hand {
        final Row row = new Row();
        final int[] rack = new int[SIZES + 1];
        final int[] seen = new int[2];
        final int[] held = new int[2];
        int fits = 0;
        int nearly = 0;
        /** Of an IMAGE: whether there is one. */
        boolean kept = false;

        Hand() {
        }

        void begin(Wall wall) {
            row.n = 0;
            for (int s = 0; s <= SIZES; s++) rack[s] = wall.rack[s];
            for (int i = 0; i < 2; i++) {
                seen[i] = 0;
                held[i] = 0;
            }
            fits = wall.rules[Wall.FITS];
            nearly = wall.rules[Wall.NEARLY];
        }

        void copyOf(Hand other) {
            row.copyOf(other.row);
            for (int s = 0; s <= SIZES; s++) rack[s] = other.rack[s];
            for (int i = 0; i < 2; i++) {
                seen[i] = other.seen[i];
                held[i] = other.held[i];
            }
            fits = other.fits;
            nearly = other.nearly;
        }

        /** As put() is told. */
        int place(Wall wall, int h, int size) {
            if (!wall.isFoot(h) || size < 1 || size > SIZES) return BAD;
            int crack = wall.crack[h];
            if (crack == 0 || row.at(h) >= 0) return STATE;
            if (Math.abs(size - crack) > 1) return STATE;
            if (row.n >= MOST_PIECES) return FULL;
            if (rack[size] == 0) return NONE;
            rack[size]--;
            return row.insert(h, size);
        }

        /** PIECE k goes back to THE RACK: its size. */
        int takeOut(int k) {
            if (k < 0 || k >= row.n) return NONE;
            int size = row.size[k];
            rack[size]++;
            row.remove(k);
            return size;
        }

        int takeAll() {
            int had = row.n;
            for (int k = had - 1; k >= 0; k--) takeOut(k);
            return had;
        }

        int chance(Wall wall, int k) {
            return row.size[k] == wall.crack[row.foot[k]] ? fits : nearly;
        }

        int inRack() {
            int sum = 0;
            for (int s = 1; s <= SIZES; s++) sum += rack[s];
            return sum;
        }

        int tries() {
            return seen[0] + seen[1];
        }

        /** Held of seen, of 20, to the nearest; what it was, if none were tried. */
        int learned(int i, int was) {
            return seen[i] == 0 ? was : (2 * IN_ALL * held[i] + seen[i]) / (2 * seen[i]);
        }
    }

    /** What came of a FALL. */
    private static final class Fall {
        int stop = 0;
        int holder = NONE;
        int pull = 0;
        int pops = 0;
        int struck = NONE;
        int harm = 0;

        Fall() {
        }

        void from(Wall wall, Row row, int h, int good) {
            stop = 0;
            holder = NONE;
            pull = 0;
            pops = 0;
            for (int k = row.n - 1; k >= 0 && holder < 0; k--) {
                if (row.foot[k] > h) continue;
                int drop = wall.dropOf(h, row.foot[k]);
                int itsPull = wall.pullOf(h, drop);
                if ((good >> k & 1) != 0 && wall.holds(row.size[k], itsPull)) {
                    holder = k;
                    pull = itsPull;
                    stop = h - drop;
                } else {
                    pops |= 1 << k;
                }
            }
            struck = wall.struckOf(h, stop);
            harm = wall.harmOf(h, stop);
        }

        /** Whether a STORY is of such a FALL. */
        boolean isSo(int popped, int hung) {
            return pops == popped && Math.max(0, stop) == hung;
        }
    }

    /** RISK and EFFORT of who leads through a row of PIECES. */
    private static final class Leader {
        private final Wall wall;
        private final Fall fall = new Fall();
        int effort = 0;
        /** The first FOOT where EFFORT is TOO MUCH; 0. */
        int tooMuch = 0;
        int worstFoot = 0;
        int worstHarm = 0;

        Leader(Wall ofWall) {
            wall = ofWall;
        }

        int riskOf(Row row, int good) {
            return riskOver(row, good, 1, wall.top());
        }

        /** The part of RISK that is of these FEET. */
        int riskOver(Row row, int good, int from, int to) {
            int sum = 0;
            for (int h = Math.max(from, wall.rules[Wall.LOW] + 1); h <= to; h++) {
                fall.from(wall, row, h, good);
                sum += wall.hard[h] * fall.harm;
            }
            return sum;
        }

        void climbAll(Row row) {
            begin(0);
            climb(row, 1, wall.top());
        }

        void begin(int effortSoFar) {
            effort = effortSoFar;
            tooMuch = 0;
        }

        void climb(Row row, int from, int to) {
            int k = row.firstFrom(from);
            for (int h = from; h <= to; h++) {
                effort += wall.hard[h];
                if (k < row.n && row.foot[k] == h) {
                    effort += wall.rules[Wall.PLACE];
                    k++;
                }
                if (tooMuch == 0 && effort > wall.rules[Wall.STRENGTH]) tooMuch = h;
                if (wall.rest[h] != 0) effort = 0;
            }
        }

        void findWorst(Row row) {
            worstFoot = 0;
            worstHarm = 0;
            for (int h = 1; h <= wall.top(); h++) {
                fall.from(wall, row, h, row.all());
                if (fall.harm > worstHarm) {
                    worstFoot = h;
                    worstHarm = fall.harm;
                }
            }
        }
    }

    /** Chances as fractions of whole numbers: at most 360 times 20 to the 10th, so nothing wraps around. */
    private static final class Chances {
        private final Wall wall;
        private final Fall fall = new Fall();
        private long above = 0;
        private long below = 1;

        Chances(Wall ofWall) {
            wall = ofWall;
        }

        long part(int what) {
            return what == 0 ? above : below;
        }

        void fraction(long numerator, long denominator) {
            long a = denominator;
            long b = numerator;
            for (int i = 0; i < 1000 && b != 0; i++) {
                long left = a % b;
                a = b;
                b = left;
            }
            above = a == 0 ? 0 : numerator / a;
            below = a == 0 ? 1 : denominator / a;
        }

        /** The chance that HARM of a FALL from h is d or more; of d 0 its mean. */
        void spread(Hand hand, int h, int d) {
            Row row = hand.row;
            long sum = 0;
            long popped = 1;
            long whole = 1;
            for (int k = row.n - 1; k >= 0; k--) {
                if (row.foot[k] > h) continue;
                int drop = wall.dropOf(h, row.foot[k]);
                // One that can not hold POPS in any case: its CHANCE does not count.
                if (!wall.holds(row.size[k], wall.pullOf(h, drop))) continue;
                int chance = hand.chance(wall, k);
                sum = IN_ALL * sum + popped * chance * worth(wall.harmOf(h, h - drop), d);
                popped *= IN_ALL - chance;
                whole *= IN_ALL;
            }
            sum += popped * worth(wall.harmOf(h, 0), d);
            fraction(sum, whole);
        }

        private static int worth(int harm, int d) {
            if (d == 0) return harm;
            return harm >= d ? 1 : 0;
        }

        /** How likely it is that one fell from h and this is what was found: HARD times factors of 20, one a PIECE. */
        long ofStory(Hand hand, int h, int popped, int hung) {
            Row row = hand.row;
            fall.from(wall, row, h, row.all() & ~popped);
            if (!fall.isSo(popped, hung)) return 0;
            long likely = wall.hard[h];
            for (int k = 0; k < row.n; k++) {
                if (k == fall.holder) likely *= hand.chance(wall, k);
                else if ((popped >> k & 1) != 0 && couldHold(row, k, h)) likely *= IN_ALL - hand.chance(wall, k);
                else likely *= IN_ALL;
            }
            return likely;
        }

        private boolean couldHold(Row row, int k, int h) {
            return wall.holds(row.size[k], wall.pullOf(h, wall.dropOf(h, row.foot[k])));
        }
    }

    /** PLAN and RULES. They hang on what the text told alone, so they are found once a text. */
    private static final class Planner {
        private final Wall wall;
        private final Leader leader;
        private final Row row = new Row();
        private final int[] left = new int[SIZES + 1];
        private final int[] cracks = new int[MOST_PIECES];
        private int count = 0;
        private boolean ready = false;
        private boolean readyBest = false;
        private int planBits = 0;
        final Row plan = new Row();
        boolean planned = false;
        int planRisk = 0;
        /** 0: each is TOO MUCH. */
        int bestRule = 0;
        int bestRisk = 0;

        Planner(Wall ofWall, Leader aLeader) {
            wall = ofWall;
            leader = aLeader;
        }

        void forget() {
            ready = false;
            readyBest = false;
        }

        void findPlan() {
            if (ready) return;
            ready = true;
            planned = false;
            begin();
            choose(0, 0, 0, 0);
        }

        private void begin() {
            row.n = 0;
            count = 0;
            for (int s = 0; s <= SIZES; s++) left[s] = wall.rack[s];
            for (int h = 1; h <= wall.top() && count < MOST_PIECES; h++) {
                if (wall.crack[h] != 0) cracks[count++] = h;
            }
        }

        /**
         * All below CRACK c is chosen. FEET from CRACK c - 1 up to below CRACK c hang on that alone,
         * so a choice with too much EFFORT, or more RISK than the best, is left here.
         */
        private void choose(int c, int bits, int effort, int risk) {
            if (c > count) return;
            int from = c == 0 ? 1 : cracks[c - 1];
            int to = c == count ? wall.top() : cracks[c] - 1;
            leader.begin(effort);
            leader.climb(row, from, to);
            if (leader.tooMuch > 0) return;
            int effortThere = leader.effort;
            int riskThere = risk + leader.riskOver(row, row.all(), from, to);
            if (planned && riskThere > planRisk) return;
            if (c == count) keepIfBetter(bits, riskThere);
            else goOn(c, bits, effortThere, riskThere);
        }

        /** With a PIECE in CRACK c first: that is likelier to be the better way, so more of the others is cut off. */
        private void goOn(int c, int bits, int effort, int risk) {
            int size = wall.crack[cracks[c]];
            if (left[size] > 0) {
                left[size]--;
                int k = row.insert(cracks[c], size);
                choose(c + 1, bits | 1 << c, effort, risk);
                row.remove(k);
                left[size]++;
            }
            choose(c + 1, bits, effort, risk);
        }

        private void keepIfBetter(int bits, int risk) {
            boolean better = !planned || risk < planRisk;
            if (!better && risk == planRisk) better = row.n < plan.n || row.n == plan.n && bits < planBits;
            if (!better) return;
            planned = true;
            planRisk = risk;
            planBits = bits;
            plan.copyOf(row);
        }

        /** RULE r: its PIECES stand in a row of the planner's own, until the next one. */
        void follow(int r) {
            begin();
            int last = 0;
            for (int c = 0; c < count; c++) {
                int h = cracks[c];
                int size = wall.crack[h];
                if (h - last >= r && left[size] > 0) {
                    left[size]--;
                    row.insert(h, size);
                    last = h;
                }
            }
        }

        int ruleRisk() {
            return leader.riskOf(row, row.all());
        }

        int ruleSize() {
            return row.n;
        }

        boolean ruleIsTooMuch() {
            leader.climbAll(row);
            return leader.tooMuch > 0;
        }

        void findBest() {
            findPlan();
            if (readyBest) return;
            readyBest = true;
            bestRule = 0;
            bestRisk = 0;
            for (int r = 1; r <= MOST_FEET; r++) {
                follow(r);
                if (ruleIsTooMuch()) continue;
                int risk = ruleRisk();
                if (bestRule == 0 || risk <= bestRisk) {
                    bestRule = r;
                    bestRisk = risk;
                }
            }
        }
    }

    /** PITCHES, who leads them, and the way DOWN. */
    private static final class Route {
        private final Wall wall;
        private boolean ready = false;
        /** The fewest PITCHES from a FOOT to TOP; -1: there is no way. */
        private final int[] fewest = new int[MOST_FEET + 1];
        /** The fewest PIECES left from a FOOT to the ground; -1: there is no way. */
        private final int[] left = new int[MOST_FEET + 1];
        final int[] ends = new int[MOST_FEET];
        final int[] who = new int[MOST_FEET];
        /** How many PITCHES; 0: there are none such. */
        int n = 0;
        int cost = 0;

        Route(Wall ofWall) {
            wall = ofWall;
        }

        void forget() {
            ready = false;
        }

        void findPitches() {
            if (ready) return;
            ready = true;
            int top = wall.top();
            fewest[top] = 0;
            for (int h = top - 1; h >= 0; h--) fewest[h] = pitchesFrom(h);
            n = Math.max(0, fewest[0]);
            int at = 0;
            for (int i = 0; i < n; i++) {
                at = nextStance(at);
                ends[i] = at;
            }
        }

        private int pitchesFrom(int h) {
            int least = -1;
            int most = Math.min(wall.top(), h + wall.rules[Wall.ROPE]);
            for (int s = h + 1; s <= most; s++) {
                if (!wall.isStance(s) || fewest[s] < 0) continue;
                if (least < 0 || fewest[s] + 1 < least) least = fewest[s] + 1;
            }
            return least;
        }

        /** The lowest STANCE from which one PITCH fewer is left. */
        private int nextStance(int at) {
            int most = Math.min(wall.top(), at + wall.rules[Wall.ROPE]);
            for (int s = at + 1; s <= most; s++) {
                if (wall.isStance(s) && fewest[s] == fewest[at] - 1) return s;
            }
            return at;
        }

        private int costOf(int i, int good) {
            int sum = 0;
            for (int h = i == 0 ? 1 : ends[i - 1] + 1; h <= ends[i]; h++) sum += wall.hard[h];
            return good < 1 ? sum : (sum + good - 1) / good;
        }

        private int costOfTurns(int a, int b, int first) {
            int sum = 0;
            for (int i = 0; i < n; i++) sum += costOf(i, (i + first) % 2 == 0 ? a : b);
            return sum;
        }

        void takeTurns(int a, int b) {
            int ifA = costOfTurns(a, b, 0);
            int ifB = costOfTurns(a, b, 1);
            int first = ifA <= ifB ? 0 : 1;
            cost = Math.min(ifA, ifB);
            for (int i = 0; i < n; i++) who[i] = (i + first) % 2;
        }

        void leadFreely(int a, int b) {
            cost = 0;
            for (int i = 0; i < n; i++) {
                int ifA = costOf(i, a);
                int ifB = costOf(i, b);
                who[i] = ifA <= ifB ? 0 : 1;
                cost += Math.min(ifA, ifB);
            }
        }

        /** PIECES left on the way DOWN from h; -1: there is no way. */
        int leftFrom(int h) {
            left[0] = 0;
            for (int f = 1; f <= h; f++) left[f] = f == h || wall.isStance(f) ? leastLeft(f) : -1;
            return left[h];
        }

        private int leastLeft(int f) {
            int least = -1;
            int leaves = wall.isStance(f) ? 1 : 2;
            for (int g = Math.max(0, f - wall.rules[Wall.ROPE] / 2); g < f; g++) {
                if (left[g] < 0) continue;
                if (least < 0 || left[g] + leaves < least) least = left[g] + leaves;
            }
            return least;
        }
    }

    /** The fewest BOLTS with which no FALL strikes; found once a text. */
    private static final class Bolts {
        private static final int NO_WAY = 99;
        private final Wall wall;
        private boolean ready = false;
        /** The fewest BOLTS from a FOOT up, if there is one. */
        private final int[] fewest = new int[MOST_FEET + 1];
        final int[] feet = new int[MOST_FEET];
        int n = 0;
        boolean any = false;

        Bolts(Wall ofWall) {
            wall = ofWall;
        }

        void forget() {
            ready = false;
        }

        void find() {
            if (ready) return;
            ready = true;
            n = 0;
            any = true;
            int top = wall.top();
            int low = wall.rules[Wall.LOW];
            if (top <= low) return;
            for (int b = top; b >= 1; b--) fewest[b] = fewestFrom(b);
            int least = NO_WAY;
            for (int b = 1; b <= Math.min(low + 1, top); b++) {
                if (isLowest(b)) least = Math.min(least, fewest[b]);
            }
            any = least < NO_WAY;
            if (any) collect(least);
        }

        /** Whether a FALL from h onto a BOLT strikes nothing. */
        private boolean isSafe(int bolt, int h) {
            return wall.struckOf(h, h - wall.dropOf(h, bolt)) == NONE;
        }

        private boolean isLowest(int b) {
            return b <= wall.rules[Wall.LOW] || isSafe(b, b);
        }

        /** The highest FOOT up to which all above a BOLT fall onto it and strike nothing. */
        private int reach(int bolt) {
            int h = bolt;
            for (int up = bolt + 1; up <= wall.top() && isSafe(bolt, up); up++) h = up;
            return h;
        }

        private int fewestFrom(int bolt) {
            int reach = reach(bolt);
            if (reach >= wall.top()) return 1;
            int least = NO_WAY;
            for (int b = bolt + 1; b <= reach + 1; b++) {
                if (isSafe(b, b)) least = Math.min(least, fewest[b] + 1);
            }
            return Math.min(least, NO_WAY);
        }

        private void collect(int least) {
            int from = 1;
            int to = Math.min(wall.rules[Wall.LOW] + 1, wall.top());
            for (int left = least; left >= 1; left--) {
                int b = firstWith(left, from, to);
                if (b == 0 || n >= feet.length) return;
                feet[n++] = b;
                from = b + 1;
                to = Math.min(reach(b) + 1, wall.top());
            }
        }

        private int firstWith(int left, int from, int to) {
            for (int b = from; b <= to; b++) {
                boolean fits = n == 0 ? isLowest(b) : isSafe(b, b);
                if (fits && fewest[b] == left) return b;
            }
            return 0;
        }
    }

    /** A SHEET: its CELLS are held as ints, whatever its lane; set() keeps them in the lane's bounds. */
    private static final class Sheet {
        static final int BYTES = 0, SHORTS = 1, INTS = 2;
        final int[] cells = new int[MOST_CELLS];
        boolean is = false;
        int lane = BYTES;
        int n = 0;

        Sheet() {
        }

        void begin(int itsLane, int many) {
            is = true;
            lane = itsLane;
            n = many;
            for (int i = 0; i < cells.length; i++) cells[i] = 0;
        }

        boolean has(int i) {
            return is && i >= 0 && i < n && i < cells.length;
        }

        void set(int i, int v) {
            cells[i] = lane == BYTES ? (byte) v : lane == SHORTS ? (short) v : v;
        }
    }
}
