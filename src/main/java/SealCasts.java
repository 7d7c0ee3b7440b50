/**
 * Seals of seals: a chancery whose one seal is lost and whose acts are sealed with casts of casts.
 *
 * The words are those of the document (ROW, CAST, PRINT, ...). A ROW is held as bits, bit 0 being MARK 0.
 * Every array is made with the object and used again, since all calls of a run share one room.
 */
public final class SealCasts {
    public static final int NONE = -1;

    private static final int NO_SUCH = -2;

    private static final int BYTES_MOST = 1600;
    private static final int BYTES_FED = 20;
    private static final int WIDTH_MOST = 12;
    private static final int WIDTH_UNTOLD = 8;
    private static final int ROWS_MOST = 1 << WIDTH_MOST;
    private static final int HANDS_MOST = 4;
    private static final int FORMULAS_MOST = 2 * HANDS_MOST;
    private static final int WAX_UNTOLD = 100;
    private static final int NUMBER_MOST = 999;
    private static final int UNITS_MOST = 90;
    private static final int UNITS_IN_ONE = 30;
    private static final int NESTS_MOST = 7;
    private static final int HEATS = 10;
    private static final int DRAWS = 100;
    private static final int SEEDS = 1000;
    private static final int SEALS_MOST = 24;
    private static final int PRINTS_MOST = 40;
    private static final int ACTS_MOST = 40;
    private static final int YEAR_MOST = 999;
    private static final int PROVINCES_MOST = 4;
    private static final int BOXES = 3;
    private static final int FACTS_MOST = 40;
    private static final int LATER_MOST = 1000;
    private static final int TIME_MOST = 100000;
    private static final int PAPERS = 8;
    private static final int KNOWN_SAMPLES = 7;
    private static final int CLAN_CHANGES_MOST = 24;
    private static final int FALSES_SHOWN = 8;
    private static final int CASTS_IN_WAY = 4;
    private static final int HEATS_IN_WAY = 4;
    /** More than any wax, MARKS or CHANGES that are counted. */
    private static final int FAR = 1000;
    private static final int LYING_MOST = 16;

    private static final int FAULT_NO_TOKEN = 1;
    private static final int FAULT_OUT_OF_PLACE = 2;
    private static final int FAULT_TOLD_ALREADY = 3;
    private static final int FAULT_NUMBER = 4;

    /** The words that stand for themselves; a word's place here is its kind. The first eight are units. */
    private static final String WORDS =
        "mark has left right many year heat draw marks first hand wears fills wax or and not ";
    private static final int WORD_COUNT = 17;
    private static final int MARK = 0;
    private static final int HAS = 1;
    private static final int LEFT = 2;
    private static final int RIGHT = 3;
    private static final int MANY = 4;
    private static final int YEAR = 5;
    private static final int HEAT = 6;
    private static final int DRAW = 7;
    private static final int UNIT_WORDS = 8;
    private static final int MARKS = 8;
    private static final int FIRST = 9;
    private static final int HAND = 10;
    private static final int WEARS = 11;
    private static final int FILLS = 12;
    private static final int WAX = 13;
    private static final int OR = 14;
    private static final int AND = 15;
    private static final int NOT = 16;

    /** Kinds of TOKENS beside those words; a sign's kind is its byte, which is above all of these. */
    private static final int NAME = 20;
    private static final int NUMBER = 21;
    private static final int END = 22;
    private static final int NO_TOKEN = 23;
    /** In a formula's code, N stands as N and this, above all kinds. */
    private static final int LITERAL = 128;

    /** How strongly signs and words bind, the weakest first, as the grammar has e, both, one, sum, term. */
    private static final int RANK_OR = 0;
    private static final int RANK_AND = 1;
    private static final int RANK_ONE = 2;
    private static final int RANK_SUM = 3;
    private static final int RANK_TERM = 4;
    private static final int RANK_UNIT = 5;

    private static final int ACT_CAST = 0;
    private static final int ACT_PRINT = 1;
    private static final int ACT_CRACK = 2;
    private static final int ACT_YEAR = 3;

    private static final int SAMPLE = 0;
    private static final int CLAIM = 1;
    private static final int SIGHT = 2;
    private static final int LINK = 3;

    private final byte[] tape;
    private final Tokens tokens;
    private final Reader reader;
    private final Court court;
    private final Bench bench;
    private final Acts acts;
    private final Ways ways;
    private final Facts facts;
    private final Lineage lineage;
    private final Heap heap;
    private final Court[] boxes;
    private final boolean[] boxIsKept;
    /** One number for each ROW, for the call at hand alone. */
    private final int[] byRow;
    private int tapeSize;
    private int faultKind;
    private int faultPlace;
    private Rules rules;
    /** A text is read into these, so that a FAULT leaves the rules in force as they are. */
    private Rules spare;

    public SealCasts() {
        tape = new byte[BYTES_MOST];
        tokens = new Tokens();
        rules = new Rules();
        spare = new Rules();
        reader = new Reader(tokens, spare);
        court = new Court();
        bench = new Bench(court, rules);
        acts = new Acts(court, bench);
        ways = new Ways(court, bench);
        facts = new Facts();
        lineage = new Lineage();
        heap = new Heap();
        boxes = new Court[BOXES];
        for (int box = 0; box < BOXES; box++) {
            boxes[box] = new Court();
        }
        boxIsKept = new boolean[BOXES];
        byRow = new int[ROWS_MOST];
        faultPlace = NONE;
        beginAnew();
    }

    // ---- the TAPE and the CHANCERY

    public int feed(int a, int b, int c, int d, int e) {
        if (tapeSize > BYTES_MOST - BYTES_FED) {
            return NONE;
        }
        putBytes(a);
        putBytes(b);
        putBytes(c);
        putBytes(d);
        putBytes(e);
        return tapeSize;
    }

    private void putBytes(int number) {
        for (int shift = 24; shift >= 0; shift -= 8) {
            if (tapeSize >= 0 && tapeSize < tape.length) {
                tape[tapeSize] = (byte) (number >>> shift);
                tapeSize++;
            }
        }
    }

    public int end(int n) {
        if (n < 0 || n > tapeSize) {
            return NONE;
        }
        tapeSize = n;
        return n;
    }

    public int chancery() {
        tokens.split(tape, tapeSize);
        faultKind = reader.read(spare);
        faultPlace = reader.place;
        if (faultKind != 0) {
            return NONE;
        }
        Rules old = rules;
        rules = spare;
        spare = old;
        beginAnew();
        return rules.hands;
    }

    /** All that a new CHANCERY sets; the TIME goes on. */
    private void beginAnew() {
        tapeSize = 0;
        bench.takeRules(rules);
        court.begin(rules);
        acts.forget();
        facts.size = 0;
        heap.size = 0;
        for (int box = 0; box < boxIsKept.length; box++) {
            boxIsKept[box] = false;
        }
    }

    public int fault(int what) {
        if (what == 0) {
            return faultKind;
        }
        return what == 1 ? faultPlace : NONE;
    }

    // ---- what there is

    public int seal(int seal, int what) {
        if (!isSeal(seal)) {
            return NONE;
        }
        switch (what) {
            case 0: return court.sealRow[seal];
            case 1: return court.sealOf[seal];
            case 2: return court.sealHand[seal];
            case 3: return court.sealYear[seal];
            case 4: return court.sealCasts[seal];
            default: return NONE;
        }
    }

    public int shown(int print, int what) {
        if (print < 0 || print >= court.prints) {
            return NONE;
        }
        switch (what) {
            case 0: return court.printRow[print];
            case 1: return court.printSeal[print];
            case 2: return court.printYear[print];
            default: return NONE;
        }
    }

    public int prints(int row, int what) {
        if (!isRow(row) || what < 0 || what > 2) {
            return NONE;
        }
        int many = 0;
        int firstYear = NONE;
        int lastYear = NONE;
        for (int print = 0; print < court.prints; print++) {
            if (court.printRow[print] == row) {
                firstYear = many == 0 ? court.printYear[print] : firstYear;
                lastYear = court.printYear[print];
                many++;
            }
        }
        if (what == 0) {
            return many;
        }
        return what == 1 ? firstYear : lastYear;
    }

    public int turned(int row) {
        return isRow(row) ? turn(row, rules.width) : NONE;
    }

    public int would(int row, int hand, int heat, int draw) {
        if (!isRow(row) || !isHand(hand) || !isHeat(heat) || draw < 0 || draw >= DRAWS) {
            return NONE;
        }
        return bench.rowAfter(row, hand, heat, draw);
    }

    // ---- ACTS

    public int cast(int seal, int hand, int heat) {
        if (!canCast(seal, hand, heat) || court.seals >= SEALS_MOST || court.waxLeft < 1 + heat) {
            return NONE;
        }
        acts.add(ACT_CAST, seal, hand, heat);
        return court.seals - 1;
    }

    public int print(int seal) {
        if (!isSeal(seal) || court.prints >= PRINTS_MOST || court.waxLeft < 1) {
            return NONE;
        }
        acts.add(ACT_PRINT, seal, 0, 0);
        return court.prints - 1;
    }

    public boolean crack(int seal, int mark) {
        if (!sealHas(seal, mark)) {
            return false;
        }
        acts.add(ACT_CRACK, seal, mark, 0);
        return true;
    }

    public int year() {
        if (court.yearNow >= YEAR_MOST) {
            return NONE;
        }
        acts.add(ACT_YEAR, 0, 0, 0);
        return court.yearNow;
    }

    public boolean undo() {
        return acts.goBack();
    }

    public boolean redo() {
        return acts.goOn();
    }

    // ---- what is asked with nothing done

    public int whose(int seal, int heat, int row) {
        if (!isSeal(seal) || !isHeat(heat) || !isRow(row)) {
            return NONE;
        }
        int hands = 0;
        for (int hand = 0; hand < rules.hands; hand++) {
            if (bench.rowAfter(court.sealRow[seal], hand, heat, 0) == row) {
                hands |= 1 << hand;
            }
        }
        return hands;
    }

    public int made(int row, int m) {
        if (!isRow(row) || m < 0 || m > WIDTH_MOST) {
            return NONE;
        }
        int seals = 0;
        for (int seal = 0; seal < court.seals; seal++) {
            int shows = printOf(seal);
            if ((row & ~shows) == 0 && Integer.bitCount(shows & ~row) <= m) {
                seals |= 1 << seal;
            }
        }
        return seals;
    }

    public int apart(int seal, int other, boolean turned) {
        if (!isSeal(seal) || !isSeal(other)) {
            return NONE;
        }
        int otherRow = turned ? printOf(other) : court.sealRow[other];
        return Integer.bitCount(court.sealRow[seal] ^ otherRow);
    }

    public int heats(int seal, int hand, int row) {
        if (!isSeal(seal) || !isHand(hand) || !isRow(row)) {
            return NONE;
        }
        int heats = 0;
        for (int heat = 0; heat < HEATS; heat++) {
            if (bench.rowAfter(court.sealRow[seal], hand, heat, 0) == row) {
                heats |= 1 << heat;
            }
        }
        return heats;
    }

    public int luck(int seal, int hand, int heat, int row) {
        if (!canCast(seal, hand, heat) || !isRow(row)) {
            return NONE;
        }
        int draws = 0;
        for (int draw = 0; draw < DRAWS; draw++) {
            if (bench.rowAfter(court.sealRow[seal], hand, heat, draw) == row) {
                draws++;
            }
        }
        return draws;
    }

    public int likely(int seal, int hand, int heat, int what) {
        if (!canCast(seal, hand, heat) || what < 0 || what > 1) {
            return NONE;
        }
        clearByRow();
        for (int draw = 0; draw < DRAWS; draw++) {
            int row = bench.rowAfter(court.sealRow[seal], hand, heat, draw);
            if (isRow(row)) {
                byRow[row]++;
            }
        }
        int best = 0;
        for (int row = 1; row < rules.rows(); row++) {
            if (byRow[row] > byRow[best]) {
                best = row;
            }
        }
        return what == 0 ? best : byRow[best];
    }

    public int fades(int seal, int hand, int heat) {
        if (!canCast(seal, hand, heat)) {
            return NONE;
        }
        goRound(court.sealRow[seal], hand, heat);
        return byRow[0] - 1;
    }

    /**
     * Goes from CAST to CAST until a ROW comes again, and answers that ROW. byRow then has for each ROW
     * that was met one more than the CASTS behind which it was met first, and 0 for the others.
     */
    private int goRound(int from, int hand, int heat) {
        clearByRow();
        int row = from;
        for (int casts = 1; casts <= rules.rows() && isRow(row) && byRow[row] == 0; casts++) {
            byRow[row] = casts;
            row = bench.rowAfter(row, hand, heat, 0);
        }
        return row;
    }

    private void clearByRow() {
        for (int row = 0; row < rules.rows(); row++) {
            byRow[row] = 0;
        }
    }

    public int kin(int seal, int other, int what) {
        if (!isSeal(seal) || !isSeal(other) || what < 0 || what > 1) {
            return NONE;
        }
        int one = seal;
        int two = other;
        // A SEAL's number is above that of the one it is of, so the greater of the two goes back.
        for (int step = 0; step < 2 * SEALS_MOST && one != two && isSeal(one) && isSeal(two); step++) {
            if (one > two) {
                one = court.sealOf[one];
            } else {
                two = court.sealOf[two];
            }
        }
        if (what == 0 || !isSeal(one)) {
            return one;
        }
        return court.sealCasts[seal] + court.sealCasts[other] - 2 * court.sealCasts[one];
    }

    public int thumb(int seal, int mark) {
        if (!sealHas(seal, mark)) {
            return NO_SUCH;
        }
        int at = seal;
        int place = mark;
        for (int step = 0; step < SEALS_MOST && at > 0; step++) {
            int before = court.sealOf[at];
            place = rules.width - 1 - place;
            if (!sealHas(before, place)) {
                return court.sealHand[at];
            }
            at = before;
        }
        return NONE;
    }

    public int share(int row, int n, int province) {
        if (!isRow(row) || n < 1 || n > PROVINCES_MOST || province < 0 || province >= n) {
            return NONE;
        }
        int all = Integer.bitCount(row);
        if (all == 0) {
            return 0;
        }
        int own = 100 * marksIn(row, n, province);
        int left = 100;
        int ahead = 0;
        for (int other = 0; other < n; other++) {
            int hundredfold = 100 * marksIn(row, n, other);
            left -= hundredfold / all;
            boolean isFirst = hundredfold % all > own % all
                || (hundredfold % all == own % all && other < province);
            ahead += isFirst ? 1 : 0;
        }
        return own / all + (ahead < left ? 1 : 0);
    }

    private int marksIn(int row, int n, int province) {
        int many = 0;
        for (int mark = 0; mark < rules.width; mark++) {
            if ((row >> mark & 1) != 0 && mark * n / rules.width == province) {
                many++;
            }
        }
        return many;
    }

    public int forge(int seal, int hand, int heat, int row, int what) {
        if (!canCast(seal, hand, heat) || !isRow(row) || what < 0 || what > 1) {
            return NONE;
        }
        int fewest = FAR;
        int best = NONE;
        for (int from = 0; from < rules.rows(); from++) {
            int unlike = Integer.bitCount(from ^ court.sealRow[seal]);
            if (unlike < fewest && bench.rowAfter(from, hand, heat, 0) == row) {
                fewest = unlike;
                best = from;
            }
        }
        return what == 0 && best != NONE ? fewest : best;
    }

    public int nearest(int row, int what) {
        if (!isRow(row) || what < 0 || what > 2) {
            return NONE;
        }
        int fewest = FAR;
        int best = NONE;
        int byItsRow = 0;
        for (int kind = 0; kind < 2; kind++) {
            for (int seal = 0; seal < court.seals; seal++) {
                int unlike = Integer.bitCount(row ^ (kind == 0 ? printOf(seal) : court.sealRow[seal]));
                if (unlike < fewest) {
                    fewest = unlike;
                    best = seal;
                    byItsRow = kind;
                }
            }
        }
        if (what == 0) {
            return fewest;
        }
        return what == 1 ? best : byItsRow;
    }

    public int common(int what) {
        switch (what) {
            case 0: return marksOfAllSeals();
            case 1: return marksOfSomeSeals();
            case 2: return marksOfAllPrints();
            default: return NONE;
        }
    }

    private int marksOfAllSeals() {
        int marks = rules.rows() - 1;
        for (int seal = 0; seal < court.seals; seal++) {
            marks &= court.sealRow[seal];
        }
        return marks;
    }

    private int marksOfSomeSeals() {
        int marks = 0;
        for (int seal = 0; seal < court.seals; seal++) {
            marks |= court.sealRow[seal];
        }
        return marks;
    }

    private int marksOfAllPrints() {
        int marks = rules.rows() - 1;
        for (int print = 0; print < court.prints; print++) {
            marks &= court.printRow[print];
        }
        return marks;
    }

    public int alike(int row, boolean isTurned) {
        if (!isRow(row)) {
            return NONE;
        }
        int wanted = isTurned ? turn(row, rules.width) : row;
        int seals = 0;
        for (int seal = 0; seal < court.seals; seal++) {
            if (court.sealRow[seal] == wanted) {
                seals |= 1 << seal;
            }
        }
        return seals;
    }

    public int tell() {
        int fewest = rules.width + 1;
        int best = 0;
        for (int marks = 0; marks < rules.rows(); marks++) {
            if (Integer.bitCount(marks) < fewest && tellsApart(marks)) {
                fewest = Integer.bitCount(marks);
                best = marks;
            }
        }
        heap.size = 0;
        for (int mark = 0; mark < rules.width; mark++) {
            if ((best >> mark & 1) != 0) {
                heap.lay(mark);
            }
        }
        return fewest;
    }

    private boolean tellsApart(int marks) {
        for (int one = 1; one < court.seals; one++) {
            for (int two = 0; two < one; two++) {
                int unlike = court.sealRow[one] ^ court.sealRow[two];
                if (unlike != 0 && (unlike & marks) == 0) {
                    return false;
                }
            }
        }
        return true;
    }

    public int round(int seal, int hand, int heat, int what) {
        if (!canCast(seal, hand, heat) || what < 0 || what > 1) {
            return NONE;
        }
        int again = goRound(court.sealRow[seal], hand, heat);
        int casts = 0;
        for (int row = 0; row < rules.rows(); row++) {
            casts = Math.max(casts, byRow[row]);
        }
        return what == 0 || !isRow(again) ? casts : casts - (byRow[again] - 1);
    }

    public int steady(int hand, int heat, int what) {
        if (!isHand(hand) || !isHeat(heat) || what < 0 || what > 1) {
            return NONE;
        }
        for (int row = 0; row < rules.rows(); row++) {
            byRow[row] = bench.rowAfter(row, hand, heat, 0);
        }
        int many = 0;
        int most = NONE;
        int best = NONE;
        for (int row = 0; row < rules.rows(); row++) {
            if (isRow(byRow[row]) && byRow[byRow[row]] == row) {
                many++;
                if (Integer.bitCount(row) > most) {
                    most = Integer.bitCount(row);
                    best = row;
                }
            }
        }
        return what == 0 ? many : best;
    }

    public int against(int hand, int other, int heat) {
        if (!isHand(hand) || !isHand(other) || !isHeat(heat)) {
            return NONE;
        }
        int many = 0;
        for (int row = 0; row < rules.rows(); row++) {
            if (bench.rowAfter(row, hand, heat, 0) != bench.rowAfter(row, other, heat, 0)) {
                many++;
            }
        }
        return many;
    }

    public int wax(int row) {
        heap.size = 0;
        if (!isRow(row)) {
            return NONE;
        }
        int seal = ways.seek(row, rules.rows());
        if (!isSeal(seal)) {
            return NONE;
        }
        heap.lay(seal);
        ways.layWay(court.sealRow[seal], heap);
        return ways.least;
    }

    // ---- FACTS

    public int sample(int row, boolean isBackward) {
        return isRow(row) ? facts.add(SAMPLE, row, 0, isBackward ? 1 : 0) : NONE;
    }

    public int claim(int row, int seal, int year) {
        if (!isRow(row) || !isSeal(seal) || !isYear(year)) {
            return NONE;
        }
        return facts.add(CLAIM, row, seal, year);
    }

    public int saw(int mark, int year, boolean is) {
        return isMark(mark) && isYear(year) ? facts.add(SIGHT, mark, year, is ? 1 : 0) : NONE;
    }

    public int link(int paper, int other, boolean isTurned) {
        if (!isPaper(paper) || !isPaper(other) || paper == other) {
            return NONE;
        }
        return facts.add(LINK, paper, other, isTurned ? 1 : 0);
    }

    public boolean untell(int fact) {
        if (fact < 0 || fact >= facts.size || facts.untold[fact] != NONE) {
            return false;
        }
        facts.untold[fact] = facts.time;
        return true;
    }

    public int later(int by) {
        if (by < 0 || by > LATER_MOST || facts.time + by > TIME_MOST) {
            return NONE;
        }
        facts.time += by;
        return facts.time;
    }

    public int tree(int root, int what, int k) {
        heap.size = 0;
        lineage.gather(facts, k, rules.width);
        if (root < 0 || root >= lineage.size || what < 0 || what > 1) {
            return NONE;
        }
        lineage.growFrom(root);
        for (int sample = 0; sample < lineage.size; sample++) {
            heap.lay(lineage.bestFrom[sample]);
        }
        return what == 0 ? lineage.fewest : lineage.trees;
    }

    public int centre(int what, int k) {
        lineage.gather(facts, k, rules.width);
        if (lineage.size == 0 || what < 0 || what > 1) {
            return NONE;
        }
        int best = 0;
        for (int sample = 1; sample < lineage.size; sample++) {
            if (lineage.changesToOthers(sample) < lineage.changesToOthers(best)) {
                best = sample;
            }
        }
        return what == 0 ? best : lineage.changesToOthers(best);
    }

    public int clans(int m, int what, int k) {
        if (m < 0 || m > CLAN_CHANGES_MOST || what < 0 || what > 1) {
            return NONE;
        }
        lineage.gather(facts, k, rules.width);
        lineage.joinClans(m);
        return what == 0 ? lineage.clanCount() : lineage.largestClan();
    }

    public int origin(int what, int k) {
        if (what < 0 || what > 1) {
            return NONE;
        }
        int row = 0;
        int inAll = 0;
        for (int mark = 0; mark < rules.width; mark++) {
            int without = samplesWith(mark, false, k);
            int with = samplesWith(mark, true, k);
            // Each MARK is weighed for itself; where both ways weigh alike, the least ROW is without it.
            if (without < 2 * with) {
                row |= 1 << mark;
            }
            inAll += Math.min(without, 2 * with);
        }
        return what == 0 ? row : inAll;
    }

    private int samplesWith(int mark, boolean is, int k) {
        int many = 0;
        for (int fact = 0; fact < facts.size; fact++) {
            if (facts.counts(fact, SAMPLE, k)) {
                int place = facts.three[fact] != 0 ? rules.width - 1 - mark : mark;
                boolean has = (facts.one[fact] >> place & 1) != 0;
                many += has == is ? 1 : 0;
            }
        }
        return many;
    }

    public int falses(int k) {
        heap.size = 0;
        int many = 0;
        for (int fact = 0; fact < facts.size; fact++) {
            if (facts.counts(fact, CLAIM, k) && isFalse(fact)) {
                if (many < FALSES_SHOWN) {
                    heap.lay(fact);
                }
                many++;
            }
        }
        return many;
    }

    private boolean isFalse(int fact) {
        int seal = facts.two[fact];
        return !isSeal(seal) || (facts.one[fact] & ~printOf(seal)) != 0
            || facts.three[fact] < court.sealYear[seal];
    }

    public int span(int mark, int what, int k) {
        if (!isMark(mark) || what < 0 || what > 2) {
            return NONE;
        }
        int from = 0;
        int to = YEAR_MOST;
        for (int fact = 0; fact < facts.size; fact++) {
            if (facts.counts(fact, SIGHT, k) && facts.one[fact] == mark) {
                if (facts.three[fact] != 0) {
                    from = Math.max(from, facts.two[fact] + 1);
                } else {
                    to = Math.min(to, facts.two[fact]);
                }
            }
        }
        if (what == 2) {
            return Math.max(0, to - from + 1);
        }
        if (from > to) {
            return NONE;
        }
        return what == 0 ? from : to;
    }

    public int backward(int paper, int k) {
        return isPaper(paper) ? facts.sideOf(paper, k) : NONE;
    }

    // ---- what lies there, BOXES, and all in numbers

    public int lies(int i) {
        return i < 0 || i >= heap.size ? NO_SUCH : heap.numbers[i];
    }

    public int image(int box) {
        if (box < 0 || box >= BOXES) {
            return NONE;
        }
        boxes[box].copyFrom(court);
        boxIsKept[box] = true;
        return court.seals;
    }

    public int back(int box) {
        if (box < 0 || box >= BOXES || !boxIsKept[box]) {
            return NONE;
        }
        court.copyFrom(boxes[box]);
        acts.forget();
        return court.seals;
    }

    public int about(int what) {
        switch (what) {
            case 0: return rules.hands;
            case 1: return rules.width;
            case 2: return court.seals;
            case 3: return court.prints;
            case 4: return court.waxLeft;
            case 5: return court.yearNow;
            case 6: return court.seed;
            case 7: return acts.done;
            case 8: return acts.undone;
            case 9: return facts.size;
            case 10: return facts.time;
            case 11: return tapeSize;
            case 12: return rules.units;
            case 13: return heap.size;
            default: return NONE;
        }
    }

    // ---- what can be

    private boolean isRow(int row) {
        return row >= 0 && row < rules.rows();
    }

    private boolean isMark(int mark) {
        return mark >= 0 && mark < rules.width;
    }

    private boolean isHand(int hand) {
        return hand >= 0 && hand < rules.hands;
    }

    private static boolean isHeat(int heat) {
        return heat >= 0 && heat < HEATS;
    }

    private static boolean isYear(int year) {
        return year >= 0 && year <= YEAR_MOST;
    }

    private static boolean isPaper(int paper) {
        return paper >= 0 && paper < PAPERS;
    }

    private boolean isSeal(int seal) {
        return seal >= 0 && seal < court.seals;
    }

    private boolean sealHas(int seal, int mark) {
        return isSeal(seal) && isMark(mark) && (court.sealRow[seal] >> mark & 1) != 0;
    }

    private boolean canCast(int seal, int hand, int heat) {
        return isSeal(seal) && isHand(hand) && isHeat(heat);
    }

    private int printOf(int seal) {
        return isSeal(seal) ? turn(court.sealRow[seal], rules.width) : 0;
    }

    /** All sixteen bits are turned by swapping halves, since a loop over MARKS would be the dearest step of a CAST. */
    private static int turn(int row, int width) {
        int bits = (row & 0x5555) << 1 | row >>> 1 & 0x5555;
        bits = (bits & 0x3333) << 2 | bits >>> 2 & 0x3333;
        bits = (bits & 0x0f0f) << 4 | bits >>> 4 & 0x0f0f;
        bits = (bits & 0x00ff) << 8 | bits >>> 8 & 0x00ff;
        return bits >>> 16 - width;
    }

    private static int changes(int from, int to, int width) {
        int before = turn(from, width);
        return Integer.bitCount(before & ~to) + 2 * Integer.bitCount(to & ~before);
    }

    /** The numbers that lie there. */
    private static final class Heap {
        final int[] numbers;
        int size;

        Heap() {
            numbers = new int[LYING_MOST];
        }

        void lay(int number) {
            if (size >= 0 && size < numbers.length) {
                numbers[size] = number;
                size++;
            }
        }
    }

    /** A text as TOKENS; behind what is no TOKEN nothing more is split. */
    private static final class Tokens {
        final int[] kinds;
        final int[] places;
        /** Of an N its number, of a word its letters as one number. */
        final long[] values;
        int size;
        private final long[] words;

        Tokens() {
            kinds = new int[BYTES_MOST + 2];
            places = new int[BYTES_MOST + 2];
            values = new long[BYTES_MOST + 2];
            words = new long[WORD_COUNT];
            int word = 0;
            for (int i = 0; i < WORDS.length() && word < WORD_COUNT; i++) {
                if (WORDS.charAt(i) == ' ') {
                    word++;
                } else {
                    words[word] = withLetter(words[word], WORDS.charAt(i));
                }
            }
        }

        void split(byte[] text, int length) {
            size = 0;
            int end = Math.min(length, text.length);
            int at = 0;
            for (int i = 0; i < BYTES_MOST && at >= 0 && at < end; i++) {
                int sign = text[at];
                if (sign == ' ' || sign == '\n') {
                    at++;
                } else if (isLetter(sign)) {
                    at = splitWord(text, at, end);
                } else if (isDigit(sign)) {
                    at = splitNumber(text, at, end);
                } else {
                    at = splitSign(sign, at, end);
                }
            }
            add(END, length, 0);
        }

        /** Each of these answers where the text goes on: at its end, behind what is no TOKEN. */
        private int splitWord(byte[] text, int from, int end) {
            long letters = 0;
            int at = from;
            for (; at < end && isLetter(text[at]); at++) {
                letters = withLetter(letters, text[at]);
            }
            if (at - from > 8) {
                add(NO_TOKEN, from, 0);
                return end;
            }
            add(kindOf(letters), from, letters);
            return at;
        }

        private int splitNumber(byte[] text, int from, int end) {
            int number = 0;
            int at = from;
            for (; at < end && isDigit(text[at]); at++) {
                number = number * 10 + text[at] - '0';
            }
            if (at - from > 4 || (at < end && isLetter(text[at]))) {
                add(NO_TOKEN, from, 0);
                return end;
            }
            add(NUMBER, from, number);
            return at;
        }

        private int splitSign(int sign, int at, int end) {
            // Bytes below a blank are no signs, though kinds of words have such numbers.
            boolean joins = sign > ' ' && rankOf(sign) >= 0;
            if (sign == ';' || sign == '(' || sign == ')' || joins) {
                add(sign, at, 0);
                return at + 1;
            }
            add(NO_TOKEN, at, 0);
            return end;
        }

        private void add(int kind, int place, long value) {
            if (size >= 0 && size < kinds.length) {
                kinds[size] = kind;
                places[size] = place;
                values[size] = value;
                size++;
            }
        }

        private int kindOf(long letters) {
            for (int word = 0; word < words.length; word++) {
                if (words[word] == letters) {
                    return word;
                }
            }
            return NAME;
        }

        private static long withLetter(long letters, int letter) {
            return letters * 27 + letter - 'a' + 1;
        }

        private static boolean isLetter(int sign) {
            return sign >= 'a' && sign <= 'z';
        }

        private static boolean isDigit(int sign) {
            return sign >= '0' && sign <= '9';
        }

        /** Of what stands between two parts of a formula: how strongly it binds; below 0 for all else. */
        static int rankOf(int kind) {
            switch (kind) {
                case OR: return RANK_OR;
                case AND: return RANK_AND;
                case '<': case '>': case '=': return RANK_ONE;
                case '+': case '-': return RANK_SUM;
                case '*': case '/': case '%': return RANK_TERM;
                default: return -1;
            }
        }
    }

    /** Reads TOKENS as a CHANCERY, from the first to the last, and stops at the first FAULT. */
    private static final class Reader {
        private final Tokens tokens;
        private Rules rules;
        private int fault;
        int place;
        /** The TOKEN at hand. */
        private int at;
        private int kind;
        private long value;
        /** Sorts of lines that were told, as bits. */
        private int told;
        private int unitsInOne;

        Reader(Tokens tokens, Rules rules) {
            this.tokens = tokens;
            this.rules = rules;
        }

        /** The FAULT, or 0; its place is known then. */
        int read(Rules into) {
            rules = into;
            rules.clear();
            fault = 0;
            place = NONE;
            told = 0;
            at = -1;
            take();
            for (int i = 0; i < BYTES_MOST && fault == 0 && kind != END; i++) {
                readLine();
            }
            return fault;
        }

        private void readLine() {
            int word = kind;
            if (!mayBegin(word)) {
                fail(FAULT_OUT_OF_PLACE);
                return;
            }
            told |= 1 << word;
            take();
            switch (word) {
                case MARKS: rules.width = readNumber(1, WIDTH_MOST); break;
                case FIRST: readFirst(); break;
                case HAND: readHand(); break;
                case WAX: rules.waxTold = readNumber(0, NUMBER_MOST); break;
                default: rules.drawTold = readNumber(0, NUMBER_MOST); break;
            }
            expect(';');
        }

        private boolean mayBegin(int word) {
            switch (word) {
                case MARKS: return told == 0;
                case HAND: return rules.hands < HANDS_MOST;
                case FIRST: case WAX: case DRAW: return (told >> word & 1) == 0;
                default: return false;
            }
        }

        private int readNumber(int least, int most) {
            int number = (int) value;
            if (kind != NUMBER) {
                fail(FAULT_OUT_OF_PLACE);
            } else if (number < least || number > most) {
                fail(FAULT_NUMBER);
            }
            if (fault != 0) {
                return least;
            }
            take();
            return number;
        }

        private void readFirst() {
            for (int i = 0; i <= WIDTH_MOST && fault == 0 && (i == 0 || kind == NUMBER); i++) {
                int mark = (int) value;
                if (kind == NUMBER && mark < rules.width && (rules.firstRow >> mark & 1) != 0) {
                    fail(FAULT_TOLD_ALREADY);
                    return;
                }
                rules.firstRow |= 1 << readNumber(0, rules.width - 1);
            }
        }

        private void readHand() {
            if (kind != NAME) {
                fail(FAULT_OUT_OF_PLACE);
                return;
            }
            if (rules.hasName(value)) {
                fail(FAULT_TOLD_ALREADY);
                return;
            }
            rules.addHand(value);
            take();
            for (int word = WEARS; word <= FILLS; word++) {
                expect(word);
                unitsInOne = 0;
                readPart(RANK_OR, 0);
                rules.endFormula();
            }
        }

        /** A part of a formula that binds as strongly as rank, or more, within so many ( e ) and not. */
        private void readPart(int rank, int nests) {
            if (fault != 0) {
                return;
            }
            if (rank >= RANK_UNIT) {
                readUnit(nests);
                return;
            }
            if (rank == RANK_ONE && kind == NOT) {
                readNot(nests);
                return;
            }
            readPart(rank + 1, nests);
            int most = rank == RANK_ONE ? 1 : UNITS_IN_ONE;
            for (int i = 0; i < most && fault == 0 && Tokens.rankOf(kind) == rank; i++) {
                int sign = kind;
                take();
                readPart(rank + 1, nests);
                rules.addCode(sign);
            }
        }

        private void readNot(int nests) {
            if (nests >= NESTS_MOST) {
                fail(FAULT_OUT_OF_PLACE);
                return;
            }
            take();
            readPart(RANK_ONE, nests + 1);
            rules.addCode(NOT);
        }

        private void readUnit(int nests) {
            int unit = kind;
            int number = (int) value;
            boolean isUnit = unit == NUMBER || unit == '(' || (unit >= 0 && unit < UNIT_WORDS);
            boolean isTooDeep = unit == '(' && nests >= NESTS_MOST;
            if (!isUnit || isTooDeep || unitsInOne >= UNITS_IN_ONE || rules.units >= UNITS_MOST) {
                fail(FAULT_OUT_OF_PLACE);
                return;
            }
            unitsInOne++;
            rules.units++;
            take();
            if (unit == '(') {
                readPart(RANK_OR, nests + 1);
                expect(')');
            } else if (unit == NUMBER) {
                rules.addCode(LITERAL + number);
            } else {
                rules.addCode(unit);
                rules.addUse(unit);
            }
        }

        private void expect(int wanted) {
            if (fault == 0 && kind == wanted) {
                take();
            } else {
                fail(FAULT_OUT_OF_PLACE);
            }
        }

        private void take() {
            at++;
            boolean isThere = at >= 0 && at < tokens.size;
            kind = isThere ? tokens.kinds[at] : END;
            value = isThere ? tokens.values[at] : 0;
        }

        /** The first FAULT stays; where there is no TOKEN, that is the least FAULT of its place. */
        private void fail(int wrong) {
            if (fault == 0) {
                fault = kind == NO_TOKEN ? FAULT_NO_TOKEN : wrong;
                place = at >= 0 && at < tokens.size ? tokens.places[at] : NONE;
            }
        }
    }

    /** A CHANCERY as it was told. Formulas stand one behind the other, their parts ahead of what joins them. */
    private static final class Rules {
        int width;
        int firstRow;
        int hands;
        int waxTold;
        int drawTold;
        int units;
        private final long[] names;
        /** Of each HAND the unit words that stand in its formulas, as bits. */
        private final int[] uses;
        private final int[] code;
        private int codeSize;
        /** Formula 2h is what HAND h wears, 2h + 1 what it fills; each ends where the next one starts. */
        private final int[] starts;
        private int formulas;
        private final int[] stack;

        Rules() {
            names = new long[HANDS_MOST];
            uses = new int[HANDS_MOST];
            code = new int[BYTES_MOST];
            starts = new int[FORMULAS_MOST + 1];
            stack = new int[UNITS_IN_ONE + 2];
            clear();
        }

        void clear() {
            width = WIDTH_UNTOLD;
            firstRow = 0;
            hands = 0;
            waxTold = WAX_UNTOLD;
            drawTold = 0;
            units = 0;
            codeSize = 0;
            formulas = 0;
        }

        int rows() {
            return 1 << width;
        }

        boolean hasName(long name) {
            for (int hand = 0; hand < hands && hand < names.length; hand++) {
                if (names[hand] == name) {
                    return true;
                }
            }
            return false;
        }

        void addHand(long name) {
            if (hands >= 0 && hands < names.length) {
                names[hands] = name;
                uses[hands] = 0;
                hands++;
            }
        }

        void addUse(int word) {
            if (hands > 0 && hands <= uses.length) {
                uses[hands - 1] |= 1 << word;
            }
        }

        boolean isUsed(int hand, int word) {
            return hand >= 0 && hand < uses.length && (uses[hand] >> word & 1) != 0;
        }

        void addCode(int part) {
            if (codeSize >= 0 && codeSize < code.length) {
                code[codeSize] = part;
                codeSize++;
            }
        }

        void endFormula() {
            if (formulas >= 0 && formulas < starts.length - 1) {
                formulas++;
                starts[formulas] = codeSize;
            }
        }

        /** What comes of a formula, with the unit words as told in the order of their kinds. */
        int valueOf(int formula, int[] told) {
            if (formula < 0 || formula >= formulas || formula >= starts.length - 1) {
                return 0;
            }
            int end = Math.min(starts[formula + 1], codeSize);
            int top = -1;
            for (int i = Math.max(starts[formula], 0); i < end; i++) {
                int part = code[i];
                if (part >= LITERAL && top < stack.length - 1) {
                    top++;
                    stack[top] = part - LITERAL;
                } else if (part >= 0 && part < told.length && top < stack.length - 1) {
                    top++;
                    stack[top] = told[part];
                } else if (part == NOT && top >= 0) {
                    stack[top] = stack[top] == 0 ? 1 : 0;
                } else if (top >= 1) {
                    top--;
                    stack[top] = join(part, stack[top], stack[top + 1]);
                }
            }
            return top >= 0 ? stack[0] : 0;
        }

        private static int join(int sign, int a, int b) {
            switch (sign) {
                case OR: return a != 0 || b != 0 ? 1 : 0;
                case AND: return a != 0 && b != 0 ? 1 : 0;
                case '<': return a < b ? 1 : 0;
                case '>': return a > b ? 1 : 0;
                case '=': return a == b ? 1 : 0;
                case '+': return a + b;
                case '-': return a - b;
                case '*': return a * b;
                case '/': return b == 0 ? 0 : a / b;
                case '%': return b == 0 ? 0 : a % b;
                default: return 0;
            }
        }
    }

    /**
     * Makes CASTS. What becomes of a MARK hangs on its number, itself, its neighbours and how many there are;
     * so for each HAND and HEAT what was once worked out is known until the YEAR or the draw is another one.
     */
    private static final class Bench {
        private static final int NEARS = 8;
        private static final int CASES = (WIDTH_MOST + 1) * NEARS;
        private static final int PRESSES = HANDS_MOST * HEATS;

        private final Court court;
        private Rules rules;
        /** By cases of a press: MARKS of which it is known what becomes of them, and those that are there then. */
        private final int[] known;
        private final int[] there;
        /** For which YEAR and draw a press knows what it knows. */
        private final int[] knownFor;
        /** The unit words, by their kinds. */
        private final int[] told;

        Bench(Court court, Rules rules) {
            this.court = court;
            this.rules = rules;
            known = new int[PRESSES * CASES];
            there = new int[PRESSES * CASES];
            knownFor = new int[PRESSES];
            told = new int[UNIT_WORDS];
        }

        void takeRules(Rules newRules) {
            rules = newRules;
            for (int press = 0; press < knownFor.length; press++) {
                knownFor[press] = NONE;
            }
        }

        boolean isHeatUsed(int hand) {
            return rules.isUsed(hand, HEAT);
        }

        int handCount() {
            return rules.hands;
        }

        /** A CAST of a ROW in this YEAR. */
        int rowAfter(int row, int hand, int heat, int draw) {
            if (hand < 0 || hand >= rules.hands || !isHeat(heat)) {
                return row;
            }
            int from = turn(row, rules.width);
            int many = Integer.bitCount(from);
            int cases = setUp(hand, heat, draw);
            if (rules.isUsed(hand, MANY) && many <= WIDTH_MOST) {
                cases += many * NEARS;
                told[MANY] = many;
            }
            int width = rules.width;
            int around = from << 1;
            int after = 0;
            for (int mark = 0; mark < width; mark++) {
                // MARK m - 1, m and m + 1 as bits 0, 1 and 2.
                int near = around >>> mark & 7;
                int bit = 1 << mark;
                if ((known[cases + near] & bit) == 0) {
                    learn(hand, cases, near, mark);
                }
                after |= there[cases + near] & bit;
            }
            return after;
        }

        /** Gets the press of a HAND and HEAT ready; where its cases start. */
        private int setUp(int hand, int heat, int draw) {
            int press = hand * HEATS + (rules.isUsed(hand, HEAT) ? heat : 0);
            int now = rules.isUsed(hand, YEAR) ? court.yearNow * DRAWS : 0;
            now += rules.isUsed(hand, DRAW) ? draw : 0;
            if (knownFor[press] != now) {
                forget(press * CASES, rules.isUsed(hand, MANY) ? CASES : NEARS);
                knownFor[press] = now;
            }
            told[YEAR] = court.yearNow;
            told[HEAT] = heat;
            told[DRAW] = draw;
            return press * CASES;
        }

        private void forget(int from, int cases) {
            for (int i = Math.max(from, 0); i < from + cases && i < known.length; i++) {
                known[i] = 0;
                there[i] = 0;
            }
        }

        private void learn(int hand, int cases, int near, int mark) {
            told[MARK] = mark;
            told[LEFT] = near & 1;
            told[HAS] = near >> 1 & 1;
            told[RIGHT] = near >> 2 & 1;
            boolean isThere = told[HAS] != 0
                ? rules.valueOf(2 * hand, told) == 0
                : rules.valueOf(2 * hand + 1, told) != 0;
            int index = cases + near;
            if (index >= 0 && index < known.length) {
                known[index] |= 1 << mark;
                there[index] |= isThere ? 1 << mark : 0;
            }
        }
    }

    /** SEALS, PRINTS, wax, YEAR and SEED: what ACTS change and BOXES keep. */
    private static final class Court {
        int seals;
        final int[] sealRow;
        final int[] sealOf;
        final int[] sealHand;
        final int[] sealYear;
        final int[] sealCasts;
        int prints;
        final int[] printRow;
        final int[] printSeal;
        final int[] printYear;
        int width;
        int waxLeft;
        int yearNow;
        int seed;

        Court() {
            sealRow = new int[SEALS_MOST];
            sealOf = new int[SEALS_MOST];
            sealHand = new int[SEALS_MOST];
            sealYear = new int[SEALS_MOST];
            sealCasts = new int[SEALS_MOST];
            printRow = new int[PRINTS_MOST];
            printSeal = new int[PRINTS_MOST];
            printYear = new int[PRINTS_MOST];
        }

        void begin(Rules rules) {
            sealRow[0] = rules.firstRow;
            sealOf[0] = NONE;
            sealHand[0] = NONE;
            sealYear[0] = 0;
            sealCasts[0] = 0;
            seals = 1;
            prints = 0;
            width = rules.width;
            waxLeft = rules.waxTold;
            yearNow = 0;
            seed = rules.drawTold;
        }

        void copyFrom(Court other) {
            copySeals(other);
            copyPrints(other);
            waxLeft = other.waxLeft;
            yearNow = other.yearNow;
            seed = other.seed;
        }

        private void copySeals(Court other) {
            seals = other.seals;
            System.arraycopy(other.sealRow, 0, sealRow, 0, SEALS_MOST);
            System.arraycopy(other.sealOf, 0, sealOf, 0, SEALS_MOST);
            System.arraycopy(other.sealHand, 0, sealHand, 0, SEALS_MOST);
            System.arraycopy(other.sealYear, 0, sealYear, 0, SEALS_MOST);
            System.arraycopy(other.sealCasts, 0, sealCasts, 0, SEALS_MOST);
        }

        private void copyPrints(Court other) {
            prints = other.prints;
            System.arraycopy(other.printRow, 0, printRow, 0, PRINTS_MOST);
            System.arraycopy(other.printSeal, 0, printSeal, 0, PRINTS_MOST);
            System.arraycopy(other.printYear, 0, printYear, 0, PRINTS_MOST);
        }

        void addSeal(int row, int of, int hand) {
            if (seals < 0 || seals >= SEALS_MOST || of < 0 || of >= seals) {
                return;
            }
            sealRow[seals] = row;
            sealOf[seals] = of;
            sealHand[seals] = hand;
            sealYear[seals] = yearNow;
            sealCasts[seals] = sealCasts[of] + 1;
            seals++;
        }

        void addPrint(int seal) {
            if (prints < 0 || prints >= PRINTS_MOST || seal < 0 || seal >= seals) {
                return;
            }
            printRow[prints] = turn(sealRow[seal], width);
            printSeal[prints] = seal;
            printYear[prints] = yearNow;
            prints++;
        }

        void flip(int seal, int mark) {
            if (seal >= 0 && seal < seals) {
                sealRow[seal] ^= 1 << mark;
            }
        }
    }

    /** Does ACTS and keeps the latest: first those that can be undone, behind them those that can be redone. */
    private static final class Acts {
        private final Court court;
        private final Bench bench;
        private final int[] kinds;
        private final int[] seals;
        /** The HAND of a CAST, the MARK of a CRACK. */
        private final int[] withs;
        private final int[] heats;
        private final int[] seeds;
        int done;
        int undone;

        Acts(Court court, Bench bench) {
            this.court = court;
            this.bench = bench;
            kinds = new int[ACTS_MOST];
            seals = new int[ACTS_MOST];
            withs = new int[ACTS_MOST];
            heats = new int[ACTS_MOST];
            seeds = new int[ACTS_MOST];
        }

        void forget() {
            done = 0;
            undone = 0;
        }

        void add(int kind, int seal, int with, int heat) {
            if (done >= ACTS_MOST) {
                dropOldest();
            }
            if (done < 0 || done >= ACTS_MOST) {
                return;
            }
            kinds[done] = kind;
            seals[done] = seal;
            withs[done] = with;
            heats[done] = heat;
            seeds[done] = court.seed;
            perform(done);
            done++;
            undone = 0;
        }

        private void dropOldest() {
            System.arraycopy(kinds, 1, kinds, 0, ACTS_MOST - 1);
            System.arraycopy(seals, 1, seals, 0, ACTS_MOST - 1);
            System.arraycopy(withs, 1, withs, 0, ACTS_MOST - 1);
            System.arraycopy(heats, 1, heats, 0, ACTS_MOST - 1);
            System.arraycopy(seeds, 1, seeds, 0, ACTS_MOST - 1);
            done = ACTS_MOST - 1;
        }

        boolean goBack() {
            if (done < 1 || done > ACTS_MOST) {
                return false;
            }
            done--;
            undone++;
            takeBack(done);
            return true;
        }

        boolean goOn() {
            if (undone < 1 || done < 0 || done >= ACTS_MOST) {
                return false;
            }
            perform(done);
            done++;
            undone--;
            return true;
        }

        private void perform(int act) {
            switch (kinds[act]) {
                case ACT_CAST:
                    makeCast(seals[act], withs[act], heats[act]);
                    break;
                case ACT_PRINT:
                    court.addPrint(seals[act]);
                    court.waxLeft--;
                    break;
                case ACT_CRACK:
                    court.flip(seals[act], withs[act]);
                    break;
                default:
                    court.yearNow++;
                    break;
            }
        }

        private void makeCast(int seal, int hand, int heat) {
            if (seal < 0 || seal >= court.seals) {
                return;
            }
            court.seed = (court.seed * 137 + 71) % SEEDS;
            court.addSeal(bench.rowAfter(court.sealRow[seal], hand, heat, court.seed % DRAWS), seal, hand);
            court.waxLeft -= 1 + heat;
        }

        private void takeBack(int act) {
            switch (kinds[act]) {
                case ACT_CAST:
                    court.seals--;
                    court.seed = seeds[act];
                    court.waxLeft += 1 + heats[act];
                    break;
                case ACT_PRINT:
                    court.prints--;
                    court.waxLeft++;
                    break;
                case ACT_CRACK:
                    court.flip(seals[act], withs[act]);
                    break;
                default:
                    court.yearNow--;
                    break;
            }
        }
    }

    /** The least wax for a told ROW. */
    private static final class Ways {
        private static final int UNKNOWN = -1;

        private final Court court;
        private final Bench bench;
        /** By CASTS that may come, less 1, and ROW: the fewest wax; only ROWS that are met are worked out. */
        private final int[] fewest;
        private int wanted;
        private int rows;
        int least;

        Ways(Court court, Bench bench) {
            this.court = court;
            this.bench = bench;
            fewest = new int[(CASTS_IN_WAY - 1) * ROWS_MOST];
        }

        /** The first SEAL from which the least wax leads to a ROW; NONE if there is no way. */
        int seek(int row, int rowCount) {
            wanted = row;
            rows = Math.min(rowCount, ROWS_MOST);
            for (int i = 0; i < (CASTS_IN_WAY - 1) * rows; i++) {
                fewest[i] = UNKNOWN;
            }
            least = FAR;
            int best = NONE;
            for (int seal = 0; seal < court.seals; seal++) {
                int wax = waxFrom(court.sealRow[seal], CASTS_IN_WAY);
                if (wax < least) {
                    least = wax;
                    best = seal;
                }
            }
            return best;
        }

        void layWay(int from, Heap heap) {
            int row = from;
            int left = least;
            for (int casts = CASTS_IN_WAY; casts > 0 && row != wanted; casts--) {
                int step = firstStep(row, casts, left);
                if (step == NONE) {
                    return;
                }
                heap.lay(step);
                row = bench.rowAfter(row, step / HEATS, step % HEATS, 0);
                left -= 1 + step % HEATS;
            }
        }

        /** The first CAST of all that go on for just so much wax, as 10 * HAND and HEAT. */
        private int firstStep(int row, int casts, int wax) {
            for (int hand = 0; hand < bench.handCount(); hand++) {
                for (int heat = 0; heat < heatsOf(hand); heat++) {
                    int next = bench.rowAfter(row, hand, heat, 0);
                    if (1 + heat + waxFrom(next, casts - 1) == wax) {
                        return hand * HEATS + heat;
                    }
                }
            }
            return NONE;
        }

        private int waxFrom(int row, int casts) {
            if (row == wanted) {
                return 0;
            }
            if (casts <= 0 || casts > CASTS_IN_WAY || row < 0 || row >= rows) {
                return FAR;
            }
            int index = (casts - 1) * rows + row;
            boolean isKept = casts < CASTS_IN_WAY && index < fewest.length;
            if (isKept && fewest[index] != UNKNOWN) {
                return fewest[index];
            }
            int wax = FAR;
            for (int hand = 0; hand < bench.handCount(); hand++) {
                for (int heat = 0; heat < heatsOf(hand) && 1 + heat < wax; heat++) {
                    int next = bench.rowAfter(row, hand, heat, 0);
                    wax = Math.min(wax, 1 + heat + waxFrom(next, casts - 1));
                }
            }
            if (isKept) {
                fewest[index] = wax;
            }
            return wax;
        }

        /** Where HEAT changes nothing, more of it only costs more wax, and can't be in a way of the least. */
        private int heatsOf(int hand) {
            return bench.isHeatUsed(hand) ? HEATS_IN_WAY : 1;
        }
    }

    /** FACTS, each TOLD at a TIME and perhaps UNTOLD at one. */
    private static final class Facts {
        int size;
        int time;
        private final int[] kinds;
        /** What a FACT tells: ROW, none, backward; ROW, SEAL, YEAR; MARK, YEAR, there; PAPER, PAPER, TURNED. */
        final int[] one;
        final int[] two;
        final int[] three;
        private final int[] told;
        final int[] untold;
        /** PAPERS of one group hang together by LINKS; sides tell which of them are TURNED to one another. */
        private final int[] groups;
        private final int[] sides;

        Facts() {
            kinds = new int[FACTS_MOST];
            one = new int[FACTS_MOST];
            two = new int[FACTS_MOST];
            three = new int[FACTS_MOST];
            told = new int[FACTS_MOST];
            untold = new int[FACTS_MOST];
            groups = new int[PAPERS];
            sides = new int[PAPERS];
        }

        int add(int kind, int first, int second, int third) {
            if (size < 0 || size >= FACTS_MOST) {
                return NONE;
            }
            kinds[size] = kind;
            one[size] = first;
            two[size] = second;
            three[size] = third;
            told[size] = time;
            untold[size] = NONE;
            size++;
            return size - 1;
        }

        boolean counts(int fact, int kind, int k) {
            return fact >= 0 && fact < size && kinds[fact] == kind && told[fact] <= k
                && (untold[fact] == NONE || untold[fact] > k);
        }

        /** Whether a PAPER is TURNED to PAPER 0, by the LINKS known at k. */
        int sideOf(int paper, int k) {
            if (paper < 0 || paper >= PAPERS) {
                return NONE;
            }
            for (int other = 0; other < PAPERS; other++) {
                groups[other] = other;
                sides[other] = 0;
            }
            for (int fact = 0; fact < size; fact++) {
                if (counts(fact, LINK, k) && !join(one[fact], two[fact], three[fact])) {
                    return NO_SUCH;
                }
            }
            return groups[paper] == groups[0] ? sides[paper] ^ sides[0] : NONE;
        }

        /** Joins the groups of two PAPERS; false if by other LINKS they lie otherwise. */
        private boolean join(int paper, int other, int isTurned) {
            if (paper < 0 || paper >= PAPERS || other < 0 || other >= PAPERS) {
                return false;
            }
            int turns = sides[paper] ^ sides[other] ^ isTurned;
            int group = groups[other];
            if (groups[paper] == group) {
                return turns == 0;
            }
            for (int each = 0; each < PAPERS; each++) {
                if (groups[each] == group) {
                    groups[each] = groups[paper];
                    sides[each] ^= turns;
                }
            }
            return true;
        }
    }

    /** The first SAMPLES that count, numbered anew, and which came from which. */
    private static final class Lineage {
        int size;
        int fewest;
        int trees;
        final int[] bestFrom;
        private final int[] rows;
        /** CHANGES from one (times KNOWN_SAMPLES) to another one. */
        private final int[] changes;
        private int root;
        private final int[] from;
        /** The fewest CHANGES that the SAMPLES from this one on can add to a TREE. */
        private final int[] atLeast;
        private final int[] clans;

        Lineage() {
            bestFrom = new int[KNOWN_SAMPLES];
            rows = new int[KNOWN_SAMPLES];
            changes = new int[KNOWN_SAMPLES * KNOWN_SAMPLES];
            from = new int[KNOWN_SAMPLES];
            atLeast = new int[KNOWN_SAMPLES + 1];
            clans = new int[KNOWN_SAMPLES];
        }

        void gather(Facts facts, int k, int width) {
            size = 0;
            for (int fact = 0; fact < facts.size && size < KNOWN_SAMPLES; fact++) {
                if (facts.counts(fact, SAMPLE, k)) {
                    rows[size] = facts.one[fact];
                    size++;
                }
            }
            for (int one = 0; one < size; one++) {
                for (int two = 0; two < size; two++) {
                    changes[one * KNOWN_SAMPLES + two] = SealCasts.changes(rows[one], rows[two], width);
                }
            }
        }

        private int changesFrom(int one, int two) {
            return changes[one * KNOWN_SAMPLES + two];
        }

        int changesToOthers(int sample) {
            int sum = 0;
            for (int other = 0; other < size; other++) {
                sum += other == sample ? 0 : changesFrom(sample, other);
            }
            return sum;
        }

        void growFrom(int newRoot) {
            root = newRoot;
            fewest = FAR;
            trees = 0;
            atLeast[size] = 0;
            for (int sample = size - 1; sample >= 0; sample--) {
                atLeast[sample] = atLeast[sample + 1] + fewestTo(sample);
                from[sample] = NONE;
            }
            grow(0, 0);
        }

        private int fewestTo(int sample) {
            if (sample == root) {
                return 0;
            }
            int least = FAR;
            for (int other = 0; other < size; other++) {
                if (other != sample) {
                    least = Math.min(least, changesFrom(other, sample));
                }
            }
            return least;
        }

        /** Tries all from which this SAMPLE and those behind it can come, the less first. */
        private void grow(int sample, int sum) {
            if (sample > size || sum + atLeast[sample] > fewest) {
                return;
            }
            if (sample == size) {
                keepTree(sum);
            } else if (sample == root) {
                grow(sample + 1, sum);
            } else {
                for (int other = 0; other < size; other++) {
                    if (!comesFrom(other, sample)) {
                        from[sample] = other;
                        grow(sample + 1, sum + changesFrom(other, sample));
                        from[sample] = NONE;
                    }
                }
            }
        }

        /** Whether one is the other one, or comes from it so far. */
        private boolean comesFrom(int sample, int other) {
            int at = sample;
            for (int i = 0; i < KNOWN_SAMPLES && at != other && at != NONE; i++) {
                at = from[at];
            }
            return at == other;
        }

        private void keepTree(int sum) {
            if (sum < fewest) {
                fewest = sum;
                trees = 0;
                System.arraycopy(from, 0, bestFrom, 0, KNOWN_SAMPLES);
            }
            trees++;
        }

        /** Of each SAMPLE the least number of its CLAN. */
        void joinClans(int m) {
            for (int sample = 0; sample < size; sample++) {
                clans[sample] = sample;
            }
            for (int one = 0; one < size; one++) {
                for (int two = 0; two < one; two++) {
                    if (Math.min(changesFrom(one, two), changesFrom(two, one)) <= m) {
                        joinClan(clans[one], clans[two]);
                    }
                }
            }
        }

        private void joinClan(int one, int two) {
            int joined = Math.min(one, two);
            for (int sample = 0; sample < size; sample++) {
                if (clans[sample] == one || clans[sample] == two) {
                    clans[sample] = joined;
                }
            }
        }

        int clanCount() {
            int many = 0;
            for (int sample = 0; sample < size; sample++) {
                many += clans[sample] == sample ? 1 : 0;
            }
            return many;
        }

        int largestClan() {
            int largest = 0;
            for (int clan = 0; clan < size; clan++) {
                int many = 0;
                for (int sample = 0; sample < size; sample++) {
                    many += clans[sample] == clan ? 1 : 0;
                }
                largest = Math.max(largest, many);
            }
            return largest;
        }
    }
}
