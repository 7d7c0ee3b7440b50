import java.util.function.Consumer;
import java.util.function.ToIntFunction;

/** The edges of ==== 4 in "Terms" and of promises 36 to 49: one method for each sentence that names one. */
public final class FactEdgesTest {
    private static final Checks CHECKS = new Checks("FactEdgesTest");
    private static final int MIN = Integer.MIN_VALUE;
    private static final int MAX = Integer.MAX_VALUE;

    public static void main(String[] args) {
        fortyFacts();
        numberedByTelling();
        countsAtSamples();
        countsAtClaims();
        countsAtSights();
        countsAtLinks();
        untoldAtTheSameTime();
        eachSortForItself();
        sample();
        claim();
        saw();
        link();
        untell();
        later();
        changes();
        treeOfFew();
        treeOfSeven();
        treesOfLikeOnes();
        treeRefused();
        centre();
        centreOfLikeOnes();
        centreRefused();
        clans();
        clansByChanges();
        clansRefused();
        origin();
        originOfLikeOnes();
        originOfAll();
        falses();
        falsesByYear();
        falsesWithoutSeal();
        firstEightFalses();
        span();
        spanOfNone();
        backward();
        backwardNotKnown();
        backwardThatCannotBe();
        lies();
        liesOfNone();
        CHECKS.endOf(0, 36, 37, 38, 39, 40, 41, 42, 43, 44, 45, 46, 47, 48, 49);
    }

    // ---- Terms

    private static void fortyFacts() {
        CHECKS.sentence(0, "FACTS, 40 at most");
        SealCasts x = Busy.withAllFacts();
        CHECKS.due("FACTS", x.about(9), 40);
        refused("a SAMPLE", y -> y.sample(1, false));
        refused("a CLAIM", y -> y.claim(1, 0, 0));
        refused("a SIGHT", y -> y.saw(1, 0, true));
        refused("a LINK", y -> y.link(1, 0, true));
        // UNTOLD ones are FACTS still.
        x.untell(1);
        x.untell(39);
        x.later(1);
        CHECKS.due("a 41st behind UNTELLING", x.sample(1, false), -1);
        CHECKS.due("FACTS", x.about(9), 40);
        // Forty of each sort alone.
        SealCasts samples = new SealCasts();
        SealCasts claims = new SealCasts();
        SealCasts sights = new SealCasts();
        SealCasts links = new SealCasts();
        for (int fact = 0; fact < 40; fact++) {
            CHECKS.due("SAMPLE", samples.sample(fact, false), fact);
            CHECKS.due("CLAIM", claims.claim(fact, 0, fact), fact);
            CHECKS.due("SIGHT", sights.saw(fact % 8, fact, true), fact);
            CHECKS.due("LINK", links.link(fact % 8, (fact + 1) % 8, true), fact);
        }
        CHECKS.due("a 41st", samples.sample(0, false), -1);
        CHECKS.due("a 41st", claims.claim(0, 0, 0), -1);
        CHECKS.due("a 41st", sights.saw(0, 0, true), -1);
        CHECKS.due("a 41st", links.link(0, 1, true), -1);
        CHECKS.due("all 40 count", claims.falses(0), 39);
        CHECKS.due("all 40 count", sights.span(7, 0, 0), 40);
    }

    private static void refused(String which, ToIntFunction<SealCasts> telling) {
        CHECKS.due(which, telling.applyAsInt(Busy.withAllFacts()), -1);
        CHECKS.leavesAll(which, Busy::withAllFacts, telling::applyAsInt);
    }

    private static void numberedByTelling() {
        CHECKS.sentence(0, "numbered by TELLING, are TOLD at a TIME (0 at first, goes on)");
        SealCasts x = new SealCasts();
        CHECKS.due("TIME", x.about(10), 0);
        CHECKS.due("a SAMPLE", x.sample(1, false), 0);
        CHECKS.due("a LINK", x.link(0, 1, false), 1);
        x.later(5);
        CHECKS.due("a SIGHT", x.saw(0, 0, false), 2);
        x.untell(1);
        CHECKS.due("a CLAIM", x.claim(0, 0, 0), 3);
        CHECKS.due("FACTS", x.about(9), 4);
        CHECKS.due("TIME", x.about(10), 5);
    }

    /** Something TOLD at 5 and UNTOLD at 8, asked for at times around these. */
    private static void counts(Consumer<SealCasts> telling, ToIntFunction<Integer> due, Asking asking) {
        SealCasts x = CHECKS.told("marks 4;first 0;");
        x.later(5);
        telling.accept(x);
        CHECKS.due("at 4, told at 5", asking.at(x, 4), due.applyAsInt(0));
        CHECKS.due("at 5", asking.at(x, 5), due.applyAsInt(1));
        CHECKS.due("at the last time", asking.at(x, MAX), due.applyAsInt(1));
        x.later(3);
        CHECKS.due("at 8", asking.at(x, 8), due.applyAsInt(1));
        x.untell(0);
        x.later(1);
        int[] times = {MIN, -1, 0, 4, 5, 6, 7, 8, 9, 100000, MAX};
        for (int k : times) {
            CHECKS.due("at " + k + ", untold at 8", asking.at(x, k), due.applyAsInt(k >= 5 && k < 8 ? 1 : 0));
        }
    }

    private interface Asking {
        int at(SealCasts x, int k);
    }

    private static void countsAtSamples() {
        CHECKS.sentence(0, "As known at k those count that were TOLD at k or before, not UNTOLD at k or before.");
        Consumer<SealCasts> telling = x -> x.sample(7, false);
        counts(telling, n -> n == 1 ? 7 : 0, (x, k) -> x.origin(0, k));
        counts(telling, n -> n, (x, k) -> x.clans(0, 0, k));
        counts(telling, n -> n, (x, k) -> x.clans(24, 1, k));
        counts(telling, n -> n == 1 ? 0 : -1, (x, k) -> x.centre(0, k));
        counts(telling, n -> n == 1 ? 0 : -1, (x, k) -> x.tree(0, 0, k));
    }

    private static void countsAtClaims() {
        CHECKS.sentence(0, "As known at k those count that were TOLD at k or before, not UNTOLD at k or before.");
        counts(x -> x.claim(15, 0, 0), n -> n, (x, k) -> x.falses(k));
    }

    private static void countsAtSights() {
        CHECKS.sentence(0, "As known at k those count that were TOLD at k or before, not UNTOLD at k or before.");
        counts(x -> x.saw(2, 9, true), n -> n == 1 ? 10 : 0, (x, k) -> x.span(2, 0, k));
        counts(x -> x.saw(2, 9, false), n -> n == 1 ? 9 : 999, (x, k) -> x.span(2, 1, k));
        counts(x -> x.saw(2, 9, false), n -> n == 1 ? 10 : 1000, (x, k) -> x.span(2, 2, k));
    }

    private static void countsAtLinks() {
        CHECKS.sentence(0, "As known at k those count that were TOLD at k or before, not UNTOLD at k or before.");
        counts(x -> x.link(0, 7, true), n -> n == 1 ? 1 : -1, (x, k) -> x.backward(7, k));
        counts(x -> x.link(7, 0, false), n -> n == 1 ? 0 : -1, (x, k) -> x.backward(7, k));
    }

    private static void untoldAtTheSameTime() {
        CHECKS.sentence(0, "UNTOLD at a later one or the same");
        SealCasts x = CHECKS.told("marks 4;");
        x.later(5);
        x.sample(7, false);
        CHECKS.due("untell(0)", x.untell(0), true);
        for (int k : new int[] {4, 5, 6, MAX}) {
            CHECKS.due("never known, at " + k, x.origin(0, k), 0);
        }
    }

    private static void eachSortForItself() {
        CHECKS.sentence(0, "a SAMPLE (a ROW, backward or not); a CLAIM: that a ROW is the PRINT of a SEAL, in a YEAR; "
            + "a SIGHT: that a MARK was there in a YEAR, or not; a LINK: that two PAPERS (0 .. 7) are TURNED to one another, or not.");
        onlyOne(x -> x.sample(1, true), "SAMPLE");
        onlyOne(x -> x.sample(2, false), "SAMPLE");
        onlyOne(x -> x.claim(1, 0, 1), "CLAIM");
        onlyOne(x -> x.claim(2, 0, 0), "CLAIM");
        onlyOne(x -> x.saw(0, 1, true), "SIGHT");
        onlyOne(x -> x.saw(1, 0, false), "SIGHT");
        onlyOne(x -> x.saw(1, 0, true), "SIGHT");
        onlyOne(x -> x.link(0, 1, true), "LINK");
        onlyOne(x -> x.link(1, 0, true), "LINK");
        onlyOne(x -> x.link(1, 2, false), "LINK");
    }

    /** A FACT is something to what is asked of its sort, and nothing to what is asked of another one. */
    private static void onlyOne(Consumer<SealCasts> telling, String sort) {
        SealCasts x = CHECKS.told("marks 4;");
        telling.accept(x);
        CHECKS.due("SAMPLES, by a " + sort, x.clans(0, 0, 0), sort.equals("SAMPLE") ? 1 : 0);
        CHECKS.due("ORIGIN, by a " + sort, x.origin(0, 0) != 0, sort.equals("SAMPLE"));
        CHECKS.due("a root, by a " + sort, x.tree(0, 0, 0), sort.equals("SAMPLE") ? 0 : -1);
        CHECKS.due("a CENTRE, by a " + sort, x.centre(0, 0), sort.equals("SAMPLE") ? 0 : -1);
        CHECKS.due("FALSE, by a " + sort, x.falses(0), sort.equals("CLAIM") ? 1 : 0);
        int years = 0;
        for (int mark = 0; mark < 4; mark++) {
            years += x.span(mark, 2, 0);
        }
        CHECKS.due("SPAN, by a " + sort, years < 4000, sort.equals("SIGHT"));
        boolean known = x.backward(1, 0) != -1;
        // A LINK between 1 and 2 tells nothing of PAPER 0, but with another one it does.
        x.link(0, 2, true);
        known |= x.backward(1, 0) != -1;
        CHECKS.due("BACKWARD, by a " + sort, known, sort.equals("LINK"));
    }

    // ---- telling and untelling

    private static void sample() {
        CHECKS.sentence(36, "A SAMPLE: its number; NONE, doing nothing, if one can't be, or there are 40 FACTS.");
        for (int width : new int[] {1, 4, 12}) {
            String text = "marks " + width + ";";
            CHECKS.bounds("row of " + width, row -> CHECKS.told(text).sample(row, false), 0, (1 << width) - 1, -1);
            CHECKS.bounds("backward row of " + width, row -> CHECKS.told(text).sample(row, true), 0, (1 << width) - 1, -1);
        }
        for (int row : new int[] {16, -1, MIN, MAX}) {
            CHECKS.leavesAll("sample(" + row + ")", Busy::object, x -> x.sample(row, true));
        }
        // It is no ACT, and may be told twice.
        SealCasts x = new SealCasts();
        CHECKS.due("once", x.sample(1, false), 0);
        CHECKS.due("twice", x.sample(1, false), 1);
        CHECKS.due("undo()", x.undo(), false);
    }

    private static void claim() {
        CHECKS.sentence(37, "A CLAIM: its number; NONE, doing nothing, likewise (of a SEAL that there is, a YEAR 0 .. 999).");
        CHECKS.bounds("row", row -> Busy.object().claim(row, 0, 0), 0, 15, -1);
        CHECKS.bounds("seal", seal -> Busy.object().claim(0, seal, 0), 0, 2, -1);
        CHECKS.bounds("year", year -> Busy.object().claim(0, 0, year), 0, 999, -1);
        int[][] wrong = {{16, 0, 0}, {-1, 0, 0}, {0, 3, 0}, {0, -1, 0}, {0, 0, 1000}, {0, 0, -1}};
        for (int[] w : wrong) {
            CHECKS.leavesAll("claim(" + w[0] + ", " + w[1] + ", " + w[2] + ")", Busy::object, x -> x.claim(w[0], w[1], w[2]));
        }
        // A SEAL that was undone is none; one that is redone is one again.
        SealCasts x = Busy.object();
        x.undo();
        x.undo();
        CHECKS.due("of one that was undone", x.claim(0, 2, 0), -1);
        x.redo();
        CHECKS.due("of one that was redone", x.claim(0, 2, 0), 8);
        // A YEAR need not have come, nor that of the SEAL.
        CHECKS.due("a YEAR to come", x.claim(0, 0, 999), 9);
        CHECKS.due("a YEAR ahead of the SEAL's", x.claim(0, 2, 0), 10);
    }

    private static void saw() {
        CHECKS.sentence(38, "A SIGHT: its number; NONE, doing nothing, likewise (a MARK within WIDTH, a YEAR 0 .. 999).");
        for (int width : new int[] {1, 4, 12}) {
            String text = "marks " + width + ";";
            CHECKS.bounds("mark of " + width, mark -> CHECKS.told(text).saw(mark, 0, true), 0, width - 1, -1);
        }
        CHECKS.bounds("year", year -> new SealCasts().saw(0, year, true), 0, 999, -1);
        CHECKS.bounds("year", year -> new SealCasts().saw(0, year, false), 0, 999, -1);
        int[][] wrong = {{4, 0}, {-1, 0}, {MAX, 0}, {MIN, 0}, {1, 1000}, {1, -1}, {1, MAX}, {1, MIN}};
        for (int[] w : wrong) {
            CHECKS.leavesAll("saw(" + w[0] + ", " + w[1] + ")", Busy::object, x -> x.saw(w[0], w[1], true));
        }
    }

    private static void link() {
        CHECKS.sentence(39, "A LINK: its number; NONE, doing nothing, likewise (unlike PAPERS).");
        for (int one = -1; one <= 8; one++) {
            for (int two = -1; two <= 8; two++) {
                boolean can = one >= 0 && one < 8 && two >= 0 && two < 8 && one != two;
                CHECKS.due("link(" + one + ", " + two + ")", new SealCasts().link(one, two, true), can ? 0 : -1);
            }
        }
        int[][] wrong = {{8, 0}, {0, 8}, {-1, 0}, {0, -1}, {0, 0}, {7, 7}, {MAX, MIN}};
        for (int[] w : wrong) {
            CHECKS.leavesAll("link(" + w[0] + ", " + w[1] + ")", Busy::object, x -> x.link(w[0], w[1], true));
        }
        // The same once more, and what can't be beside it, are LINKS too.
        SealCasts x = new SealCasts();
        x.link(0, 1, true);
        CHECKS.due("once more", x.link(1, 0, true), 1);
        CHECKS.due("the contrary", x.link(0, 1, false), 2);
        CHECKS.sentence(0, "a LINK: that two PAPERS (0 .. 7) are TURNED to one another, or not");
        CHECKS.bounds("paper", paper -> new SealCasts().link(paper, 3, true), 0, 2, -1);
        CHECKS.bounds("other", other -> new SealCasts().link(3, other, true), 4, 7, -1);
    }

    private static void untell() {
        CHECKS.sentence(40, "It is UNTOLD: true; false if it is so already, or there is none such.");
        for (int fact : new int[] {8, 39, 40, -1, MIN, MAX}) {
            CHECKS.due("untell(" + fact + ")", Busy.object().untell(fact), false);
            CHECKS.leavesAll("untell(" + fact + ")", Busy::object, x -> x.untell(fact));
        }
        CHECKS.due("so already", Busy.object().untell(0), false);
        CHECKS.leavesAll("so already", Busy::object, x -> x.untell(0));
        for (int fact = 1; fact < 8; fact++) {
            CHECKS.due("untell(" + fact + ")", Busy.object().untell(fact), true);
        }
        SealCasts full = Busy.withAllFacts();
        CHECKS.due("the last of 40", full.untell(39), true);
        CHECKS.due("the last of 40 again", full.untell(39), false);
        CHECKS.due("a 41st", full.untell(40), false);
        CHECKS.due("of none", new SealCasts().untell(0), false);
        // At a later time it is UNTOLD when it was, not anew.
        SealCasts x = CHECKS.told("marks 4;");
        x.sample(7, false);
        x.later(2);
        x.untell(0);
        x.later(2);
        x.untell(0);
        CHECKS.due("known at 1", x.origin(0, 1), 7);
        CHECKS.due("not known at 2", x.origin(0, 2), 0);
        CHECKS.due("not known at 3", x.origin(0, 3), 0);
    }

    private static void later() {
        CHECKS.sentence(41, "So much later (0 .. 1000): the TIME; NONE, doing nothing, for another number, or if it would be above 100,000.");
        CHECKS.bounds("later", by -> new SealCasts().later(by), 0, 1000, -1);
        for (int by : new int[] {-1, 1001, MIN, MAX}) {
            CHECKS.leavesAll("later(" + by + ")", Busy::object, x -> x.later(by));
        }
        CHECKS.due("later(0)", Busy.object().later(0), 3);
        CHECKS.leavesAll("later(0)", Busy::object, x -> x.later(0));
        CHECKS.due("later(1000)", Busy.object().later(1000), 1003);
        SealCasts x = late();
        CHECKS.due("TIME", x.about(10), 99500);
        CHECKS.due("to 100,001", x.later(501), -1);
        CHECKS.due("to 100,500", x.later(1000), -1);
        CHECKS.due("TIME", x.about(10), 99500);
        CHECKS.leavesAll("to 100,001", FactEdgesTest::late, y -> y.later(501));
        CHECKS.due("to 100,000", x.later(500), 100000);
        CHECKS.due("to 100,001", x.later(1), -1);
        CHECKS.due("to 101,000", x.later(1000), -1);
        CHECKS.due("none later", x.later(0), 100000);
        CHECKS.due("one above that", x.later(MAX), -1);
        x.sample(5, false);
        CHECKS.due("known at 100,000", x.origin(0, 100000), 5);
        CHECKS.due("not known at 99,999", x.origin(0, 99999), 0);
    }

    private static SealCasts late() {
        SealCasts x = new SealCasts();
        for (int i = 0; i < 99; i++) {
            x.later(1000);
        }
        x.later(500);
        return x;
    }

    // ---- what is known

    private static SealCasts samples(int width, int... rows) {
        SealCasts x = CHECKS.told("marks " + width + ";");
        for (int row : rows) {
            x.sample(row, false);
        }
        return x;
    }

    private static void changes() {
        CHECKS.sentence(0, "CHANGES from a ROW to another one: of the first, TURNED: 1 for each MARK that was lost, 2 for each that came.");
        int[][] wants = {
            // WIDTH, from, to, CHANGES
            {4, 1, 8, 0}, {4, 1, 0, 1}, {4, 0, 1, 2}, {4, 1, 1, 3}, {4, 3, 3, 6}, {4, 15, 0, 4}, {4, 0, 15, 8}, {4, 6, 6, 0},
            {12, 0, 4095, 24}, {12, 4095, 0, 12}, {12, 4095, 4095, 0}, {12, 1, 2048, 0}, {1, 1, 1, 0}, {1, 0, 1, 2}, {1, 1, 0, 1}};
        for (int[] want : wants) {
            SealCasts x = samples(want[0], want[1], want[2]);
            CHECKS.due("from " + want[1] + " to " + want[2] + " of " + want[0], x.tree(0, 0, 0), want[3]);
            CHECKS.lies(42, x, -1, 0);
        }
    }

    private static void treeOfFew() {
        CHECKS.sentence(42, "TREE by a root what 0: CHANGES, 1: how many TREES");
        SealCasts one = samples(4, 7);
        CHECKS.due("of one SAMPLE", one.tree(0, 0, 0), 0);
        CHECKS.due("of one SAMPLE", one.tree(0, 1, 0), 1);
        CHECKS.sentence(42, "From which each comes lies there then, by SAMPLES (NONE of the root; behind NONE: nothing).");
        CHECKS.lies(42, one, -1);
        SealCasts two = samples(4, 7, 1);
        // 1 TURNED is 8: one lost, three came; 7 TURNED is 14: three lost, one came.
        CHECKS.due("from the second", two.tree(1, 0, 0), 7);
        CHECKS.lies(42, two, 1, -1);
        CHECKS.due("from the first", two.tree(0, 0, 0), 5);
        CHECKS.lies(42, two, -1, 0);
        CHECKS.due("one TREE", two.tree(1, 1, 0), 1);
        CHECKS.lies(42, two, 1, -1);
        // None comes from itself, and not round: 6 and 6 are alike, 0 is far.
        SealCasts three = samples(4, 0, 6, 6);
        CHECKS.due("the one through the other", three.tree(0, 0, 0), 4);
        CHECKS.lies(42, three, -1, 0, 1);
        CHECKS.due("two ways", three.tree(0, 1, 0), 2);
    }

    private static void treeOfSeven() {
        CHECKS.sentence(0, "each SAMPLE that counts (the first 7 of them; numbered anew, from 0 on) but one, the root, comes from another one");
        SealCasts x = CHECKS.told("marks 4;");
        x.sample(15, false);
        x.claim(0, 0, 0);
        for (int i = 0; i < 6; i++) {
            x.sample(6, true);
        }
        x.saw(0, 0, true);
        x.untell(0);
        x.sample(9, false);
        x.sample(0, false);
        // Six of 6 and then 9; 0 is the eighth.
        CHECKS.due("from the first", x.tree(0, 0, 0), 6);
        CHECKS.lies(42, x, -1, 0, 0, 0, 0, 0, 0);
        CHECKS.due("from the last", x.tree(6, 0, 0), 6);
        CHECKS.lies(42, x, 1, 2, 3, 4, 5, 6, -1);
        CHECKS.due("from the eighth", x.tree(7, 0, 0), -1);
        x.later(1);
        x.untell(3);
        // Of 0 both 6 and 9 come by two MARKS.
        CHECKS.due("the eighth is the seventh then", x.tree(6, 0, 1), 8);
        CHECKS.due("as it was known", x.tree(6, 0, 0), 6);
        SealCasts seven = samples(4, 6, 6, 6, 6, 6, 6, 6, 9, 9);
        CHECKS.due("the first seven alone", seven.tree(0, 0, 0), 0);
        CHECKS.due("all TREES of seven", seven.tree(3, 1, 0), 16807);
        CHECKS.lies(42, seven, 1, 2, 3, -1, 0, 0, 0);
    }

    private static void treesOfLikeOnes() {
        CHECKS.sentence(0, "how many TREES have so few; the first by its SAMPLES (from which it comes, the less first)");
        for (int many = 1; many <= 7; many++) {
            SealCasts x = samples(4, new int[many]);
            CHECKS.due("TREES of " + many, x.tree(0, 1, 0), (int) Math.round(Math.pow(many, many - 2)));
            int[] from = new int[many];
            from[0] = -1;
            CHECKS.due("CHANGES of " + many, x.tree(0, 0, 0), 0);
            CHECKS.lies(42, x, from);
        }
        // Fewer SAMPLES behind more of them, and more behind fewer.
        SealCasts known = CHECKS.told("marks 4;");
        known.sample(6, false);
        known.sample(6, false);
        known.sample(6, false);
        known.later(1);
        for (int row : new int[] {15, 0, 9, 8}) {
            known.sample(row, false);
        }
        int changes = known.tree(0, 0, 1);
        int trees = known.tree(0, 1, 1);
        CHECKS.due("CHANGES of three", known.tree(1, 0, 0), 0);
        CHECKS.lies(42, known, 1, -1, 0);
        CHECKS.due("TREES of three", known.tree(1, 1, 0), 3);
        CHECKS.due("CHANGES of seven again", known.tree(0, 0, 1), changes);
        CHECKS.due("TREES of seven again", known.tree(0, 1, 1), trees);
        // 15 comes from a 6 by 4, 9 from 15 by 2, 8 from 9 by 1, 0 from 8 by 1.
        CHECKS.due("CHANGES of seven", changes, 8);
        CHECKS.due("TREES of seven", trees, 3 * 3);
        // 0 comes from 15 by 4, which is 8 the other way; it may be told first or last.
        SealCasts last = samples(4, 15, 15, 15, 0);
        CHECKS.due("TREES", last.tree(0, 1, 0), 3 * 3);
        CHECKS.due("CHANGES", last.tree(0, 0, 0), 4);
        SealCasts first = samples(4, 0, 15, 15, 15);
        CHECKS.due("TREES", first.tree(1, 1, 0), 3 * 3);
        CHECKS.due("CHANGES", first.tree(1, 0, 0), 4);
        // From 0 to 1 and to 8 it is 2, from 1 to 8 and back nothing: two TREES.
        SealCasts two = samples(4, 0, 1, 8);
        CHECKS.due("two TREES", two.tree(0, 1, 0), 2);
        CHECKS.lies(42, two, -1, 0, 1);
        SealCasts turned = samples(4, 1, 8, 0);
        CHECKS.due("from the last", turned.tree(2, 1, 0), 2);
        CHECKS.lies(42, turned, 1, 2, -1);
    }

    private static void treeRefused() {
        CHECKS.sentence(42, "NONE if there is no such SAMPLE, or for another what.");
        SealCasts x = samples(4, 1, 12, 3);
        CHECKS.bounds("root", root -> x.tree(root, 0, 0), 0, 2, -1);
        CHECKS.bounds("what", what -> x.tree(1, what, 0), 0, 1, -1);
        CHECKS.due("not known yet", x.tree(0, 0, -1), -1);
        CHECKS.due("without SAMPLES", new SealCasts().tree(0, 0, 0), -1);
        int[][] wrong = {{3, 0, 0}, {-1, 0, 0}, {7, 1, 0}, {0, 2, 0}, {0, -1, 0}, {0, 0, -1}, {MAX, 0, 0}, {MIN, 0, 0}, {0, MAX, 0}};
        for (int[] w : wrong) {
            x.tree(0, 0, 0);
            CHECKS.lies(42, x, -1, 0, 1);
            CHECKS.due("tree(" + w[0] + ", " + w[1] + ", " + w[2] + ")", x.tree(w[0], w[1], w[2]), -1);
            CHECKS.lies(42, x);
        }
        CHECKS.leavesAll("tree of none", () -> laid(y -> y.tree(9, 0, 0)), y -> y.tree(0, 9, 0));
        CHECKS.leavesAll("tree", () -> laid(y -> y.tree(0, 0, 3)), y -> y.tree(0, 1, 3));
    }

    private static SealCasts laid(Consumer<SealCasts> laying) {
        SealCasts x = Busy.object();
        laying.accept(x);
        return x;
    }

    private static void centre() {
        CHECKS.sentence(0, "CENTRE: of SAMPLES that count (the first 7) the one from which CHANGES to all others are fewest together");
        SealCasts one = samples(4, 7);
        CHECKS.due("of one", one.centre(0, 0), 0);
        CHECKS.due("of one", one.centre(1, 0), 0);
        SealCasts last = samples(4, 0, 0, 0, 0, 0, 0, 15, 0);
        // From 0 to 15 it is 8, from 15 to each of six others 4.
        CHECKS.due("of seven", last.centre(0, 0), 0);
        CHECKS.due("of seven", last.centre(1, 0), 8);
        SealCasts most = samples(4, 0, 15, 15, 15, 15, 15, 15, 0, 0, 0);
        CHECKS.due("of seven", most.centre(0, 0), 1);
        CHECKS.due("of seven", most.centre(1, 0), 4);
        // From 15 it is 1 to each of the others.
        SealCasts seventh = samples(4, 7, 14, 13, 11, 7, 14, 15);
        CHECKS.due("the seventh", seventh.centre(0, 0), 6);
        CHECKS.due("the seventh", seventh.centre(1, 0), 6);
        SealCasts eighth = samples(4, 0, 0, 0, 0, 0, 0, 0, 15);
        CHECKS.due("not by the eighth", eighth.centre(1, 0), 0);
        // Numbered as TREES number them.
        SealCasts anew = samples(4, 7, 1, 0);
        anew.untell(0);
        CHECKS.due("numbered anew", anew.centre(0, 0), 0);
        CHECKS.due("CHANGES", anew.centre(1, 0), 1);
    }

    private static void centreOfLikeOnes() {
        CHECKS.sentence(0, "are fewest together; of like ones the first");
        SealCasts x = samples(4, 9, 9, 9);
        CHECKS.due("of three like ones", x.centre(0, 0), 0);
        // From 0 it is 4, from 1 and 8 it is 1 each.
        SealCasts y = samples(4, 0, 8, 1);
        CHECKS.due("of the last two", y.centre(0, 0), 1);
        CHECKS.due("CHANGES", y.centre(1, 0), 1);
    }

    private static void centreRefused() {
        CHECKS.sentence(43, "CENTRE what 0: the SAMPLE (as TREES number them), 1: CHANGES together; NONE without SAMPLES, or for another what.");
        CHECKS.due("without SAMPLES", new SealCasts().centre(0, 0), -1);
        CHECKS.due("without SAMPLES", new SealCasts().centre(1, 0), -1);
        SealCasts x = samples(4, 1, 12, 3);
        CHECKS.bounds("what", what -> x.centre(what, 0), 0, 1, -1);
        CHECKS.due("not known yet", x.centre(0, -1), -1);
        SealCasts claims = new SealCasts();
        claims.claim(1, 0, 0);
        claims.saw(1, 0, true);
        claims.link(1, 0, true);
        CHECKS.due("FACTS that are no SAMPLES", claims.centre(0, 0), -1);
        CHECKS.leavesAll("centre", Busy::object, y -> y.centre(0, 3));
    }

    private static void clans() {
        CHECKS.sentence(44, "CLANS (m 0 .. 24) what 0: how many, 1: how many SAMPLES the largest has");
        clansOf(samples(4), 0, 0, 0);
        clansOf(samples(4), 24, 0, 0);
        clansOf(samples(4, 7), 0, 1, 1);
        clansOf(samples(4, 7, 7), 0, 2, 1);
        clansOf(samples(4, 7, 14), 0, 1, 2);
        clansOf(samples(4, 6, 6, 6, 6, 6, 6, 6), 0, 1, 7);
        // The first seven: an eighth neither is one nor joins any.
        clansOf(samples(4, 6, 6, 6, 6, 6, 6, 6, 9), 0, 1, 7);
        clansOf(samples(4, 6, 6, 6, 6, 6, 6, 9, 9), 0, 2, 6);
        clansOf(samples(4, 6, 6, 6, 9, 9, 9, 9), 0, 2, 4);
        clansOf(samples(4, 9, 6, 9, 6, 9, 6, 0), 0, 3, 3);
        CHECKS.sentence(44, "(0 without SAMPLES.)");
        CHECKS.due("how many", new SealCasts().clans(24, 0, 0), 0);
        CHECKS.due("the largest", new SealCasts().clans(24, 1, 0), 0);
    }

    private static void clansOf(SealCasts x, int m, int many, int largest) {
        CHECKS.due("clans(" + m + ", 0)", x.clans(m, 0, 0), many);
        CHECKS.due("clans(" + m + ", 1)", x.clans(m, 1, 0), largest);
    }

    private static void clansByChanges() {
        CHECKS.sentence(0, "if CHANGES from one to the other, one way or the other way, are at most m, and so on through others");
        // From 0 to 4095 it is 24, the other way 12.
        for (int[] rows : new int[][] {{0, 4095}, {4095, 0}}) {
            clansOf(samples(12, rows), 11, 2, 1);
            clansOf(samples(12, rows), 12, 1, 2);
            clansOf(samples(12, rows), 24, 1, 2);
        }
        // 0 and 1: 2 or 1; 1 and 3: 1 is TURNED 8, to 3 it is 5; 3 TURNED 12, to 1 it is 4.
        clansOf(samples(4, 0, 1), 0, 2, 1);
        clansOf(samples(4, 0, 1), 1, 1, 2);
        clansOf(samples(4, 1, 3), 3, 2, 1);
        clansOf(samples(4, 1, 3), 4, 1, 2);
        // 15 and 0 by 4, through 6 by 2: in each order.
        int[][] orders = {{0, 6, 15}, {0, 15, 6}, {6, 0, 15}, {6, 15, 0}, {15, 0, 6}, {15, 6, 0}};
        for (int[] rows : orders) {
            clansOf(samples(4, rows), 1, 3, 1);
            clansOf(samples(4, rows), 2, 1, 3);
        }
        // Two CLANS that the last one joins.
        clansOf(samples(4, 0, 0, 15, 15), 2, 2, 2);
        clansOf(samples(4, 0, 0, 15, 15, 6), 2, 1, 5);
    }

    private static void clansRefused() {
        CHECKS.sentence(44, "NONE if one can't be.");
        SealCasts x = samples(4, 1, 12, 3);
        CHECKS.bounds("m", m -> x.clans(m, 0, 0), 0, 24, -1);
        CHECKS.bounds("m without SAMPLES", m -> new SealCasts().clans(m, 1, 0), 0, 24, -1);
        CHECKS.bounds("what", what -> x.clans(0, what, 0), 0, 1, -1);
        CHECKS.leavesAll("clans", Busy::object, y -> y.clans(3, 0, 3));
    }

    private static void origin() {
        CHECKS.sentence(45, "ORIGIN what 0: its ROW, 1: how much it is in all; NONE for another what. (0 without SAMPLES.)");
        CHECKS.due("without SAMPLES", new SealCasts().origin(0, 0), 0);
        CHECKS.due("without SAMPLES", new SealCasts().origin(1, 0), 0);
        CHECKS.bounds("what without SAMPLES", what -> new SealCasts().origin(what, 0), 0, 1, -1);
        SealCasts x = samples(12, 4095);
        CHECKS.due("of all MARKS", x.origin(0, 0), 4095);
        CHECKS.due("of all MARKS", x.origin(1, 0), 0);
        CHECKS.bounds("what", what -> x.origin(what, 0), 0, 1, -1);
        CHECKS.sentence(0, "(backward ones TURNED first)");
        SealCasts y = CHECKS.told("marks 4;");
        y.sample(3, true);
        CHECKS.due("backward", y.origin(0, 0), 12);
        CHECKS.due("backward", y.origin(1, 0), 0);
        y.sample(12, false);
        CHECKS.due("that one and another like it", y.origin(1, 0), 0);
        y.sample(3, false);
        // 12, 12 and 3: each MARK of 12 is 1, each of 3 is 2 either way.
        CHECKS.due("three", y.origin(0, 0), 12);
        CHECKS.due("three", y.origin(1, 0), 1 + 1 + 2 + 2);
        CHECKS.leavesAll("origin", Busy::object, z -> z.origin(0, 3));
    }

    private static void originOfLikeOnes() {
        CHECKS.sentence(0, "1 for each MARK of it that one has not, 2 for each that it has not and one has, is least in all; of like ones the least");
        // One of three has it: 2 for it, 2 against it; of two: 1 and 2; of four: 3 and 2.
        CHECKS.due("one of two", samples(4, 8, 0).origin(0, 0), 8);
        CHECKS.due("one of two", samples(4, 8, 0).origin(1, 0), 1);
        CHECKS.due("one of three", samples(4, 8, 0, 0).origin(0, 0), 0);
        CHECKS.due("one of three", samples(4, 8, 0, 0).origin(1, 0), 2);
        CHECKS.due("one of four", samples(4, 8, 0, 0, 0).origin(0, 0), 0);
        CHECKS.due("one of four", samples(4, 8, 0, 0, 0).origin(1, 0), 2);
        CHECKS.due("two of five", samples(4, 8, 0, 0, 0, 8).origin(0, 0), 8);
        CHECKS.due("two of five", samples(4, 8, 0, 0, 0, 8).origin(1, 0), 3);
        CHECKS.due("two of six", samples(4, 8, 0, 0, 0, 8, 0).origin(0, 0), 0);
        CHECKS.due("two of six", samples(4, 8, 0, 0, 0, 8, 0).origin(1, 0), 4);
    }

    private static void originOfAll() {
        CHECKS.sentence(0, "ORIGIN: the ROW for which, over all SAMPLES that count");
        SealCasts x = CHECKS.told("marks 12;");
        for (int i = 0; i < 40; i++) {
            x.sample(i < 7 ? 0 : 4095, i % 2 == 0);
        }
        CHECKS.due("more than seven", x.origin(0, 0), 4095);
        CHECKS.due("more than seven", x.origin(1, 0), 7 * 12);
        SealCasts y = CHECKS.told("marks 12;");
        for (int i = 0; i < 40; i++) {
            y.sample(i < 27 ? 0 : 4095, false);
        }
        // 13 of 40 have each: 27 for it, 26 against it.
        CHECKS.due("the last of forty", y.origin(0, 0), 0);
        CHECKS.due("the last of forty", y.origin(1, 0), 26 * 12);
    }

    /** SEAL 0 is 3 of YEAR 0, SEAL 1 its CAST of YEAR 2, just TURNED. */
    private static SealCasts twoSeals() {
        SealCasts x = CHECKS.told("marks 4;first 0 1;hand a wears 0 fills 0;");
        x.year();
        x.year();
        x.cast(0, 0, 0);
        return x;
    }

    private static void falses() {
        CHECKS.sentence(0, "FALSE: CLAIMS whose ROW has a MARK that the PRINT of that SEAL, as it is, has not");
        int[][] wants = {{12, 0}, {8, 0}, {4, 0}, {0, 0}, {3, 1}, {13, 1}, {15, 1}, {1, 1}};
        for (int[] want : wants) {
            SealCasts x = twoSeals();
            x.claim(want[0], 0, 0);
            CHECKS.due("claim of " + want[0], x.falses(0), want[1]);
            CHECKS.due("about(13)", x.about(13), want[1]);
        }
        SealCasts x = twoSeals();
        x.claim(12, 0, 0);
        x.print(0);
        x.crack(0, 0);
        CHECKS.due("as it is now", x.falses(0), 1);
        CHECKS.lies(46, x, 0);
        x.undo();
        CHECKS.due("as it is again", x.falses(0), 0);
        CHECKS.lies(46, x);
        CHECKS.sentence(46, "FALSE: how many. Their numbers lie there then, the first eight of them.");
        CHECKS.due("without CLAIMS", new SealCasts().falses(0), 0);
        SealCasts y = twoSeals();
        y.claim(15, 0, 0);
        y.sample(15, false);
        y.claim(12, 0, 0);
        y.saw(1, 1, false);
        y.claim(15, 1, 5);
        CHECKS.due("two", y.falses(0), 2);
        CHECKS.lies(46, y, 0, 4);
        y.later(1);
        y.untell(0);
        CHECKS.due("one", y.falses(1), 1);
        CHECKS.lies(46, y, 4);
        CHECKS.leavesAll("falses", () -> laid(z -> z.falses(3)), z -> z.falses(3));
    }

    private static void falsesByYear() {
        CHECKS.sentence(0, "whose YEAR is ahead of the SEAL's");
        int[][] wants = {{0, 0, 0}, {0, 999, 0}, {1, 0, 1}, {1, 1, 1}, {1, 2, 0}, {1, 3, 0}, {1, 999, 0}};
        for (int[] want : wants) {
            SealCasts x = twoSeals();
            x.claim(0, want[0], want[1]);
            CHECKS.due("of SEAL " + want[0] + " in " + want[1], x.falses(0), want[2]);
        }
    }

    private static void falsesWithoutSeal() {
        CHECKS.sentence(0, "(or there is no such SEAL any more)");
        SealCasts x = twoSeals();
        x.image(0);
        x.claim(0, 1, 2);
        CHECKS.due("there is", x.falses(0), 0);
        x.undo();
        CHECKS.due("undone", x.falses(0), 1);
        CHECKS.lies(46, x, 0);
        x.redo();
        CHECKS.due("redone", x.falses(0), 0);
        x.undo();
        x.image(1);
        x.back(0);
        CHECKS.due("back where it is", x.falses(0), 0);
        x.back(1);
        CHECKS.due("back where it is not", x.falses(0), 1);
    }

    private static void firstEightFalses() {
        CHECKS.sentence(46, "Their numbers lie there then, the first eight of them.");
        for (int many : new int[] {7, 8, 9, 39}) {
            SealCasts x = twoSeals();
            x.sample(1, false);
            for (int i = 0; i < many; i++) {
                x.claim(15, 0, 0);
            }
            CHECKS.due("how many", x.falses(0), many);
            int[] numbers = new int[Math.min(many, 8)];
            for (int i = 0; i < numbers.length; i++) {
                numbers[i] = i + 1;
            }
            CHECKS.lies(46, x, numbers);
        }
    }

    private static void spanOf(SealCasts x, int mark, int first, int last, int many) {
        CHECKS.due("the first YEAR", x.span(mark, 0, 0), first);
        CHECKS.due("the last YEAR", x.span(mark, 1, 0), last);
        CHECKS.due("how many", x.span(mark, 2, 0), many);
    }

    private static SealCasts seen(int... signedYears) {
        SealCasts x = CHECKS.told("marks 4;");
        for (int year : signedYears) {
            // 1000 and more: not there in the YEAR that is the rest.
            x.saw(2, year % 1000, year < 1000);
        }
        return x;
    }

    private static void span() {
        CHECKS.sentence(0, "SPAN of a MARK: YEARS (0 .. 999) of its CRACK by which all SIGHTS that count are so (there in all YEARS ahead of it, in none from it on).");
        spanOf(seen(), 2, 0, 999, 1000);
        spanOf(seen(0), 2, 1, 999, 999);
        spanOf(seen(998), 2, 999, 999, 1);
        spanOf(seen(1000), 2, 0, 0, 1);
        spanOf(seen(1001), 2, 0, 1, 2);
        spanOf(seen(1999), 2, 0, 999, 1000);
        spanOf(seen(4, 1005), 2, 5, 5, 1);
        spanOf(seen(1005, 4), 2, 5, 5, 1);
        spanOf(seen(3, 7, 5, 1020, 1010, 1015), 2, 8, 10, 3);
        // Of another MARK they are nothing.
        spanOf(seen(3, 7, 1010), 1, 0, 999, 1000);
        spanOf(seen(3, 7, 1010), 3, 0, 999, 1000);
        CHECKS.leavesAll("span", Busy::object, x -> x.span(1, 0, 3));
    }

    private static void spanOfNone() {
        CHECKS.sentence(47, "NONE for what 0, 1 if there are none, or if one can't be.");
        spanOf(seen(999), 2, -1, -1, 0);
        spanOf(seen(5, 1005), 2, -1, -1, 0);
        spanOf(seen(1005, 5), 2, -1, -1, 0);
        spanOf(seen(999, 1000), 2, -1, -1, 0);
        SealCasts x = CHECKS.told("marks 4;");
        for (int each = 0; each < 3; each++) {
            int what = each;
            CHECKS.bounds("mark", mark -> x.span(mark, what, 0), 0, 3, -1);
        }
        CHECKS.bounds("what", what -> x.span(0, what, 0), 0, 2, -1);
        for (int width : new int[] {1, 12}) {
            SealCasts y = CHECKS.told("marks " + width + ";");
            CHECKS.bounds("mark of " + width, mark -> y.span(mark, 2, 0), 0, width - 1, -1);
        }
    }

    private static void backward() {
        CHECKS.sentence(0, "BACKWARD: whether, by LINKS that count, a PAPER is TURNED to PAPER 0.");
        SealCasts x = new SealCasts();
        CHECKS.due("PAPER 0 to itself", x.backward(0, 0), 0);
        // A chain from 7 to 0, told from its far end: each is TURNED to the next one.
        for (int paper = 7; paper > 0; paper--) {
            x.link(paper, paper - 1, true);
        }
        for (int paper = 0; paper < 8; paper++) {
            CHECKS.due("PAPER " + paper, x.backward(paper, 0), paper % 2);
        }
        SealCasts y = new SealCasts();
        for (int paper = 1; paper < 8; paper++) {
            y.link(0, paper, paper % 3 == 0);
        }
        for (int paper = 0; paper < 8; paper++) {
            CHECKS.due("PAPER " + paper, y.backward(paper, 0), paper > 0 && paper % 3 == 0 ? 1 : 0);
        }
        // Two groups that a last LINK joins.
        SealCasts z = new SealCasts();
        z.link(0, 1, true);
        z.link(2, 3, true);
        z.link(4, 3, false);
        z.link(1, 4, true);
        int[] want = {0, 1, 1, 0, 0};
        for (int paper = 0; paper < 5; paper++) {
            CHECKS.due("PAPER " + paper, z.backward(paper, 0), want[paper]);
        }
        CHECKS.leavesAll("backward", Busy::object, w -> w.backward(2, 3));
    }

    private static void backwardNotKnown() {
        CHECKS.sentence(48, "NONE if it is not known, or there is no such PAPER");
        SealCasts x = new SealCasts();
        for (int paper = 1; paper < 8; paper++) {
            CHECKS.due("without LINKS", x.backward(paper, 0), -1);
        }
        x.link(1, 2, false);
        CHECKS.due("not linked to PAPER 0", x.backward(1, 0), -1);
        CHECKS.due("not linked to PAPER 0", x.backward(2, 0), -1);
        for (int paper = 1; paper < 8; paper++) {
            x.link(0, paper, false);
        }
        CHECKS.bounds("paper", paper -> x.backward(paper, 0), 0, 7, -1);
    }

    private static void backwardThatCannotBe() {
        CHECKS.sentence(48, "-2 if LINKS that count can't all be.");
        SealCasts x = new SealCasts();
        x.link(0, 1, true);
        x.link(1, 0, true);
        CHECKS.due("told twice", x.backward(1, 0), 1);
        x.link(1, 0, false);
        CHECKS.due("and otherwise", x.backward(1, 0), -2);
        CHECKS.due("and PAPER 0", x.backward(0, 0), -2);
        // Three that are all TURNED to one another can't be, four in a ring can.
        SealCasts three = new SealCasts();
        three.link(5, 6, true);
        three.link(6, 7, true);
        CHECKS.due("two LINKS", three.backward(0, 0), 0);
        three.link(7, 5, true);
        CHECKS.due("three LINKS", three.backward(0, 0), -2);
        three.later(1);
        CHECKS.due("one untold", three.untell(1), true);
        CHECKS.due("one untold", three.backward(0, 1), 0);
        CHECKS.due("as it was known", three.backward(0, 0), -2);
        SealCasts four = new SealCasts();
        four.link(0, 1, true);
        four.link(1, 2, true);
        four.link(2, 3, true);
        four.link(3, 0, true);
        CHECKS.due("a ring of four", four.backward(2, 0), 0);
        CHECKS.due("a ring of four", four.backward(3, 0), 1);
        four.link(0, 2, true);
        CHECKS.due("across it", four.backward(2, 0), -2);
    }

    private static void lies() {
        CHECKS.sentence(49, "The i-th number of what lies there; -2 if there is none such.");
        SealCasts x = CHECKS.told("marks 6;first 0 1 2 3 4 5;hand a wears not left fills 0;");
        CHECKS.lies(49, x);
        x.wax(12);
        CHECKS.lies(49, x, 0, 0, 0, 0, 0);
        CHECKS.bounds("lies", x::lies, 0, 4, -2);
        x.wax(63);
        CHECKS.lies(49, x, 0);
        CHECKS.bounds("lies", x::lies, 0, 0, -2);
        // Fewer numbers than there lay: the others are gone.
        x.cast(0, 0, 0);
        x.tell();
        CHECKS.lies(49, x, 0);
        x.sample(1, false);
        x.tree(0, 0, 0);
        CHECKS.lies(49, x, -1);
        x.falses(0);
        CHECKS.lies(49, x);
        CHECKS.leavesAll("lies", Busy::object, y -> y.lies(0));
        CHECKS.leavesAll("lies", Busy::object, y -> y.lies(-1));
    }

    private static void liesOfNone() {
        CHECKS.sentence(49, "-2 if there is none such.");
        SealCasts x = new SealCasts();
        CHECKS.bounds("lies of nothing", x::lies, 0, -1, -2);
        x.tell();
        CHECKS.due("behind tell of nothing", x.lies(0), -2);
        x.wax(0);
        CHECKS.due("behind wax", x.lies(0), 0);
        x.end(0);
        x.chancery();
        CHECKS.due("behind chancery", x.lies(0), -2);
    }
}
