/** Promises 36 to 49: FACTS, told and untold in time, and what is known by them. */
public final class FactPromisesTest {
    private static final Checks CHECKS = new Checks("FactPromisesTest");
    private static final int LONG = Integer.MAX_VALUE;

    public static void main(String[] args) {
        telling();
        fortyFacts();
        time();
        twoTimes();
        tree();
        treeOfLikeOnes();
        firstSeven();
        centre();
        clans();
        origin();
        falses();
        span();
        backward();
        lies();
        CHECKS.end();
    }

    private static void telling() {
        SealCasts x = CHECKS.told("marks 4;");
        CHECKS.due(36, "sample(15)", x.sample(15, true), 0);
        CHECKS.due(36, "sample(16)", x.sample(16, true), -1);
        CHECKS.due(36, "sample(-1)", x.sample(-1, false), -1);
        CHECKS.due(37, "claim", x.claim(15, 0, 999), 1);
        CHECKS.due(37, "row 16", x.claim(16, 0, 0), -1);
        CHECKS.due(37, "row -1", x.claim(-1, 0, 0), -1);
        CHECKS.due(37, "seal 1", x.claim(0, 1, 0), -1);
        CHECKS.due(37, "seal -1", x.claim(0, -1, 0), -1);
        CHECKS.due(37, "year 1000", x.claim(0, 0, 1000), -1);
        CHECKS.due(37, "year -1", x.claim(0, 0, -1), -1);
        CHECKS.due(38, "saw", x.saw(3, 999, false), 2);
        CHECKS.due(38, "mark 4", x.saw(4, 0, true), -1);
        CHECKS.due(38, "mark -1", x.saw(-1, 0, true), -1);
        CHECKS.due(38, "year 1000", x.saw(0, 1000, true), -1);
        CHECKS.due(38, "year -1", x.saw(0, -1, true), -1);
        CHECKS.due(39, "link", x.link(7, 0, true), 3);
        CHECKS.due(39, "paper 8", x.link(8, 0, true), -1);
        CHECKS.due(39, "other 8", x.link(0, 8, true), -1);
        CHECKS.due(39, "paper -1", x.link(-1, 0, true), -1);
        CHECKS.due(39, "other -1", x.link(0, -1, true), -1);
        CHECKS.due(39, "with itself", x.link(3, 3, false), -1);
        CHECKS.due(52, "about(9)", x.about(9), 4);
        CHECKS.due(36, "no ACT", x.about(7), 0);
        CHECKS.due(40, "untell(4)", x.untell(4), false);
        CHECKS.due(40, "untell(-1)", x.untell(-1), false);
        CHECKS.due(40, "untell(3)", x.untell(3), true);
        CHECKS.due(40, "untell(3) again", x.untell(3), false);
        CHECKS.due(52, "it is a FACT still", x.about(9), 4);
    }

    private static void fortyFacts() {
        SealCasts x = new SealCasts();
        for (int fact = 0; fact < 40; fact++) {
            CHECKS.due(36, "sample", x.sample(fact, false), fact);
        }
        x.untell(0);
        CHECKS.due(36, "a 41st", x.sample(0, false), -1);
        CHECKS.due(37, "a 41st", x.claim(0, 0, 0), -1);
        CHECKS.due(38, "a 41st", x.saw(0, 0, true), -1);
        CHECKS.due(39, "a 41st", x.link(0, 1, true), -1);
        CHECKS.due(52, "about(9)", x.about(9), 40);
    }

    private static void time() {
        SealCasts x = new SealCasts();
        CHECKS.due(41, "later(0)", x.later(0), 0);
        CHECKS.due(41, "later(-1)", x.later(-1), -1);
        CHECKS.due(41, "later(1001)", x.later(1001), -1);
        CHECKS.due(41, "later(MAX)", x.later(LONG), -1);
        for (int i = 1; i <= 100; i++) {
            CHECKS.due(41, "later(1000)", x.later(1000), 1000 * i);
        }
        CHECKS.due(41, "later(1) above 100,000", x.later(1), -1);
        CHECKS.due(41, "later(0)", x.later(0), 100000);
        CHECKS.due(52, "about(10)", x.about(10), 100000);
        Checks.feedText(x, "marks 2;");
        x.chancery();
        CHECKS.due(4, "the TIME stays", x.about(10), 100000);
    }

    private static void twoTimes() {
        SealCasts x = CHECKS.told("marks 4;");
        x.later(5);
        x.sample(1, false);
        x.later(5);
        x.sample(3, false);
        x.later(5);
        x.untell(0);
        x.sample(15, false);
        x.untell(2);
        // From 5 on the first, from 10 on two, from 15 on the second alone.
        int[][] wants = {{-1, 0}, {4, 0}, {5, 2}, {9, 2}, {10, 4}, {14, 4}, {15, 4}, {LONG, 4}, {Integer.MIN_VALUE, 0}};
        for (int[] want : wants) {
            int clans = want[1] == 0 ? 0 : 1;
            CHECKS.due(44, "clans(24, 0, " + want[0] + ")", x.clans(24, 0, want[0]), clans);
        }
        CHECKS.due(44, "one at 9", x.clans(24, 1, 9), 1);
        CHECKS.due(44, "two at 10", x.clans(24, 1, 10), 2);
        CHECKS.due(44, "two at 14", x.clans(24, 1, 14), 2);
        CHECKS.due(44, "one at 15", x.clans(24, 1, 15), 1);
        CHECKS.due(45, "origin at 9", x.origin(0, 9), 1);
        CHECKS.due(45, "origin at 14", x.origin(0, 14), 3);
        CHECKS.due(45, "origin at 15", x.origin(0, 15), 3);
        CHECKS.due(45, "in all at 14", x.origin(1, 14), 1);
        CHECKS.due(45, "in all at 15", x.origin(1, LONG), 0);
    }

    private static void tree() {
        // CHANGES of 1, 12 and 3 (MARKS 0 .. 3), TURNED 8, 3 and 12:
        // 1 -> 12: one came, 2; 1 -> 3: 1 lost, 2 came, 5; 12 -> 1: 1 lost, 1; 12 -> 3: 0; 3 -> 1: 2 lost, 1 came, 4; 3 -> 12: 0.
        SealCasts x = CHECKS.told("marks 4;");
        x.sample(1, false);
        x.sample(12, true);
        x.sample(3, false);
        int[][] wants = {
            // root, CHANGES, TREES, from which each comes
            {0, 2, 1, -1, 0, 1}, {1, 1, 1, 1, -1, 1}, {2, 1, 1, 1, 2, -1}};
        for (int[] want : wants) {
            CHECKS.due(42, "CHANGES from " + want[0], x.tree(want[0], 0, 0), want[1]);
            CHECKS.lies(42, x, want[3], want[4], want[5]);
            CHECKS.due(42, "TREES from " + want[0], x.tree(want[0], 1, 0), want[2]);
            CHECKS.lies(42, x, want[3], want[4], want[5]);
        }
        CHECKS.due(42, "root 3", x.tree(3, 0, 0), -1);
        CHECKS.lies(42, x);
        x.tree(0, 0, 0);
        CHECKS.due(42, "root -1", x.tree(-1, 0, 0), -1);
        CHECKS.lies(42, x);
        x.tree(0, 0, 0);
        CHECKS.due(42, "what 2", x.tree(0, 2, 0), -1);
        CHECKS.lies(42, x);
        x.tree(0, 0, 0);
        CHECKS.due(42, "what -1", x.tree(0, -1, 0), -1);
        CHECKS.lies(42, x);
        CHECKS.due(42, "none known yet", x.tree(0, 0, -1), -1);
        x.later(1);
        x.untell(0);
        CHECKS.due(42, "two of them, numbered anew", x.tree(0, 0, 1), 0);
        CHECKS.lies(42, x, -1, 0);
        x.untell(1);
        CHECKS.due(42, "one of them", x.tree(0, 0, 1), 0);
        CHECKS.lies(42, x, -1);
        CHECKS.due(42, "one TREE of one", x.tree(0, 1, 1), 1);
        CHECKS.due(42, "as it was known", x.tree(0, 0, 0), 2);
    }

    private static void treeOfLikeOnes() {
        SealCasts x = CHECKS.told("marks 4;");
        for (int i = 0; i < 4; i++) {
            x.sample(6, false);
        }
        CHECKS.due(42, "no CHANGES", x.tree(2, 0, 0), 0);
        CHECKS.lies(42, x, 1, 2, -1, 0);
        CHECKS.due(42, "all TREES of four", x.tree(2, 1, 0), 16);
        for (int i = 0; i < 3; i++) {
            x.sample(9, false);
        }
        // Between 6 and 9 there are 6 CHANGES; three of one and four of the other hang together by one step.
        CHECKS.due(42, "one step", x.tree(0, 0, 0), 6);
        CHECKS.lies(42, x, -1, 0, 0, 0, 0, 4, 4);
        // 16 TREES of the four, 4 from which and 3 to which the step goes, 3 TREES of the three from each of them.
        CHECKS.due(42, "how many", x.tree(0, 1, 0), 16 * 4 * 3 * 3);
        SealCasts seven = CHECKS.told("marks 1;");
        for (int i = 0; i < 7; i++) {
            seven.sample(0, false);
        }
        CHECKS.due(42, "all TREES of seven", seven.tree(6, 1, 0), 16807);
        CHECKS.lies(42, seven, 1, 2, 3, 4, 5, 6, -1);
    }

    private static void firstSeven() {
        SealCasts x = CHECKS.told("marks 4;");
        x.sample(15, false);
        x.untell(0);
        for (int i = 0; i < 7; i++) {
            x.sample(0, false);
        }
        x.claim(0, 0, 0);
        x.sample(15, false);
        x.sample(15, false);
        CHECKS.due(42, "root 6", x.tree(6, 0, 0), 0);
        CHECKS.due(42, "root 7", x.tree(7, 0, 0), -1);
        CHECKS.due(43, "centre", x.centre(1, 0), 0);
        CHECKS.due(44, "clans", x.clans(0, 0, 0), 1);
        CHECKS.due(44, "largest", x.clans(0, 1, 0), 7);
        // ORIGIN is over all: of each MARK 2 have it, 7 not.
        CHECKS.due(45, "origin", x.origin(0, 0), 0);
        CHECKS.due(45, "in all", x.origin(1, 0), 16);
    }

    private static void centre() {
        SealCasts x = CHECKS.told("marks 4;");
        CHECKS.due(43, "without SAMPLES", x.centre(0, 0), -1);
        CHECKS.due(43, "without SAMPLES", x.centre(1, 0), -1);
        x.sample(1, false);
        CHECKS.due(43, "one", x.centre(0, 0), 0);
        CHECKS.due(43, "none to others", x.centre(1, 0), 0);
        x.sample(12, true);
        x.sample(3, false);
        // From 1: 2 and 5, from 12: 1 and 0, from 3: 4 and 0.
        CHECKS.due(43, "the SAMPLE", x.centre(0, 0), 1);
        CHECKS.due(43, "CHANGES", x.centre(1, 0), 1);
        CHECKS.due(43, "what 2", x.centre(2, 0), -1);
        CHECKS.due(43, "what -1", x.centre(-1, 0), -1);
        SealCasts y = CHECKS.told("marks 4;");
        y.sample(0, false);
        y.sample(8, false);
        y.sample(1, false);
        // From 0: 2 and 2, from 8 and from 1: 1 and 0.
        CHECKS.due(43, "of like ones the first", y.centre(0, 0), 1);
        CHECKS.due(43, "CHANGES", y.centre(1, 0), 1);
        y.sample(9, false);
        // From 9 to 0, 8 and 1: 2, 1 and 1; the others have 2 more to 9 (0: 4 more).
        CHECKS.due(43, "the first still", y.centre(0, 0), 1);
        CHECKS.due(43, "CHANGES", y.centre(1, 0), 3);
    }

    private static void clans() {
        SealCasts x = CHECKS.told("marks 4;");
        CHECKS.due(44, "without SAMPLES", x.clans(0, 0, 0), 0);
        CHECKS.due(44, "without SAMPLES", x.clans(0, 1, 0), 0);
        x.sample(0, false);
        x.sample(15, false);
        x.sample(8, false);
        x.sample(7, false);
        // 0 - 15: 8 or 4; 0 - 8: 2 or 1; 0 - 7: 6 or 3; 15 - 8: 3 or 6; 15 - 7: 1 or 2; 8 - 7: 4 or 2.
        int[][] wants = {{0, 4, 1}, {1, 2, 2}, {2, 1, 4}, {24, 1, 4}};
        for (int[] want : wants) {
            CHECKS.due(44, "clans(" + want[0] + ", 0)", x.clans(want[0], 0, 0), want[1]);
            CHECKS.due(44, "clans(" + want[0] + ", 1)", x.clans(want[0], 1, 0), want[2]);
        }
        CHECKS.due(44, "m 25", x.clans(25, 0, 0), -1);
        CHECKS.due(44, "m -1", x.clans(-1, 0, 0), -1);
        CHECKS.due(44, "what 2", x.clans(0, 2, 0), -1);
        CHECKS.due(44, "what -1", x.clans(0, -1, 0), -1);
        SealCasts y = CHECKS.told("marks 3;");
        // The last one joins two that were two CLANS till then: 0 and 7 by 2 (TURNED 2).
        y.sample(0, false);
        y.sample(7, false);
        CHECKS.due(44, "two", y.clans(2, 0, 0), 2);
        y.sample(2, false);
        CHECKS.due(44, "through another one", y.clans(2, 0, 0), 1);
        CHECKS.due(44, "all three", y.clans(2, 1, 0), 3);
        CHECKS.due(44, "by fewer", y.clans(1, 0, 0), 2);
        CHECKS.due(44, "by fewer", y.clans(1, 1, 0), 2);
    }

    private static void origin() {
        SealCasts x = CHECKS.told("marks 4;");
        CHECKS.due(45, "without SAMPLES", x.origin(0, 0), 0);
        CHECKS.due(45, "without SAMPLES", x.origin(1, 0), 0);
        CHECKS.due(45, "what 2", x.origin(2, 0), -1);
        CHECKS.due(45, "what -1", x.origin(-1, 0), -1);
        x.sample(1, false);
        CHECKS.due(45, "one", x.origin(0, 0), 1);
        x.sample(1, true);
        // MARKS 0 and 3, each of one of two: 1 if it is of the origin, 2 if not.
        CHECKS.due(45, "backward", x.origin(0, 0), 9);
        CHECKS.due(45, "in all", x.origin(1, 0), 2);
        x.sample(0, false);
        // Each of one of three: 2 or 2; of like ones the least.
        CHECKS.due(45, "of like ones the least", x.origin(0, 0), 0);
        CHECKS.due(45, "in all", x.origin(1, 0), 4);
        x.sample(12, true);
        // 3: MARK 0 of two of four, MARKS 1 and 3 of one of four.
        CHECKS.due(45, "four", x.origin(0, 0), 1);
        CHECKS.due(45, "in all", x.origin(1, 0), 2 + 2 + 2);
    }

    private static void falses() {
        SealCasts x = CHECKS.told("marks 4;first 0 1;hand a wears 0 fills 0;");
        x.year();
        x.year();
        x.cast(0, 0, 0);
        // PRINTS: 12 of SEAL 0 (YEAR 0), 3 of SEAL 1 (YEAR 2).
        CHECKS.due(37, "claim", x.claim(12, 0, 0), 0);
        x.sample(15, false);
        x.claim(8, 0, 5);
        x.claim(0, 0, 0);
        x.claim(14, 0, 0);
        x.claim(3, 1, 2);
        x.claim(3, 1, 1);
        x.claim(12, 1, 2);
        CHECKS.due(46, "three", x.falses(0), 3);
        CHECKS.lies(46, x, 4, 6, 7);
        CHECKS.due(46, "none at -1", x.falses(-1), 0);
        CHECKS.lies(46, x);
        x.crack(0, 0);
        // SEAL 0 is 2, its PRINT 4: 12, 8 and 14 are too much.
        CHECKS.due(46, "behind a CRACK", x.falses(0), 5);
        CHECKS.lies(46, x, 0, 2, 4, 6, 7);
        x.undo();
        x.undo();
        CHECKS.due(46, "no such SEAL any more", x.falses(0), 4);
        CHECKS.lies(46, x, 4, 5, 6, 7);
        x.later(1);
        x.untell(5);
        CHECKS.due(46, "untold", x.falses(1), 3);
        CHECKS.lies(46, x, 4, 6, 7);
        CHECKS.due(46, "as it was known", x.falses(0), 4);
        for (int i = 0; i < 6; i++) {
            x.claim(15, 0, 0);
        }
        CHECKS.due(46, "nine", x.falses(1), 9);
        CHECKS.lies(46, x, 4, 6, 7, 8, 9, 10, 11, 12);
    }

    private static void spanned(SealCasts x, int mark, int k, int first, int last, int many) {
        CHECKS.due(47, "span(" + mark + ", 0, " + k + ")", x.span(mark, 0, k), first);
        CHECKS.due(47, "span(" + mark + ", 1, " + k + ")", x.span(mark, 1, k), last);
        CHECKS.due(47, "span(" + mark + ", 2, " + k + ")", x.span(mark, 2, k), many);
    }

    private static void span() {
        SealCasts x = CHECKS.told("marks 4;");
        spanned(x, 0, 0, 0, 999, 1000);
        x.saw(0, 10, true);
        spanned(x, 0, 0, 11, 999, 989);
        x.saw(0, 20, false);
        spanned(x, 0, 0, 11, 20, 10);
        x.saw(0, 7, true);
        x.saw(0, 30, false);
        x.saw(1, 19, true);
        spanned(x, 0, 0, 11, 20, 10);
        spanned(x, 1, 0, 20, 999, 980);
        x.later(1);
        x.saw(0, 20, true);
        spanned(x, 0, 1, -1, -1, 0);
        spanned(x, 0, 0, 11, 20, 10);
        x.later(1);
        x.untell(1);
        spanned(x, 0, 2, 21, 30, 10);
        spanned(x, 0, 1, -1, -1, 0);
        x.saw(2, 999, true);
        spanned(x, 2, 2, -1, -1, 0);
        x.saw(3, 0, false);
        spanned(x, 3, 2, 0, 0, 1);
        spanned(x, 4, 2, -1, -1, -1);
        spanned(x, -1, 2, -1, -1, -1);
        CHECKS.due(47, "what 3", x.span(0, 3, 0), -1);
        CHECKS.due(47, "what -1", x.span(0, -1, 0), -1);
    }

    private static void backward() {
        SealCasts x = new SealCasts();
        CHECKS.due(48, "PAPER 0", x.backward(0, 0), 0);
        CHECKS.due(48, "PAPER 1", x.backward(1, 0), -1);
        CHECKS.due(48, "PAPER 8", x.backward(8, 0), -1);
        CHECKS.due(48, "PAPER -1", x.backward(-1, 0), -1);
        x.link(1, 2, true);
        CHECKS.due(48, "PAPER 2, not linked to 0", x.backward(2, 0), -1);
        x.link(2, 3, true);
        x.link(3, 0, true);
        CHECKS.due(48, "PAPER 3", x.backward(3, 0), 1);
        CHECKS.due(48, "PAPER 2", x.backward(2, 0), 0);
        CHECKS.due(48, "PAPER 1", x.backward(1, 0), 1);
        CHECKS.due(48, "PAPER 0", x.backward(0, 0), 0);
        x.link(4, 1, false);
        CHECKS.due(48, "PAPER 4", x.backward(4, 0), 1);
        x.link(0, 4, true);
        CHECKS.due(48, "told twice", x.backward(4, 0), 1);
        x.later(1);
        // What can't be counts, though it hangs together with PAPER 0 nowhere.
        x.link(6, 7, true);
        x.link(7, 6, false);
        CHECKS.due(48, "can't be", x.backward(4, 1), -2);
        CHECKS.due(48, "can't be", x.backward(0, 1), -2);
        CHECKS.due(48, "can't be", x.backward(5, 1), -2);
        CHECKS.due(48, "no such PAPER", x.backward(8, 1), -1);
        CHECKS.due(48, "as it was known", x.backward(4, 0), 1);
        x.later(1);
        x.untell(5);
        CHECKS.due(48, "the one without the other", x.backward(6, 2), -1);
        CHECKS.due(48, "PAPER 4", x.backward(4, 2), 1);
        x.untell(2);
        CHECKS.due(48, "by the other LINK", x.backward(3, 2), 1);
        x.untell(4);
        CHECKS.due(48, "by none", x.backward(3, 2), -1);
    }

    private static void lies() {
        SealCasts x = CHECKS.told("marks 4;first 0 1;hand a wears 0 fills 0;");
        CHECKS.lies(49, x);
        x.wax(12);
        CHECKS.lies(49, x, 0, 0);
        // What lies there stays while other things are done and asked.
        x.cast(0, 0, 0);
        x.undo();
        x.sample(1, false);
        x.centre(0, 0);
        x.image(0);
        x.back(0);
        x.steady(0, 0, 0);
        CHECKS.lies(49, x, 0, 0);
        CHECKS.due(49, "lies(MIN)", x.lies(Integer.MIN_VALUE), -2);
        CHECKS.due(49, "lies(MAX)", x.lies(LONG), -2);
        x.tell();
        CHECKS.lies(49, x);
        x.tree(0, 0, 0);
        CHECKS.lies(49, x, -1);
        x.falses(0);
        CHECKS.lies(49, x);
    }
}
