/** Promises 17 to 35 and 49: what is asked with nothing done. */
public final class AskPromisesTest {
    private static final Checks CHECKS = new Checks("AskPromisesTest");
    private static final int MIN = Integer.MIN_VALUE;

    public static void main(String[] args) {
        whoseAndHeats();
        made();
        apartAndAlike();
        luckAndLikely();
        fadesAndRound();
        kinAndThumb();
        share();
        forge();
        nearest();
        common();
        tell();
        steadyAndAgainst();
        wax();
        waxOfLikeOnes();
        CHECKS.end();
    }

    private static void whoseAndHeats() {
        SealCasts x = CHECKS.told("marks 4;first 0;draw 6;hand a wears 0 fills heat>mark+5;hand b wears draw fills 0;"
            + "hand c wears 0 fills year and mark=0;");
        // TURNED it is 8; hand a fills MARKS 0 .. heat - 6.
        CHECKS.due(17, "whose at heat 0", x.whose(0, 0, 8), 7);
        CHECKS.due(17, "whose at heat 7", x.whose(0, 7, 8), 6);
        CHECKS.due(17, "whose at heat 7, filled", x.whose(0, 7, 11), 1);
        CHECKS.due(17, "whose of none", x.whose(0, 7, 5), 0);
        x.year();
        CHECKS.due(17, "whose a YEAR later", x.whose(0, 7, 8), 2);
        CHECKS.due(17, "whose a YEAR later", x.whose(0, 6, 9), 5);
        CHECKS.due(17, "seal 1", x.whose(1, 0, 8), -1);
        CHECKS.due(17, "seal -1", x.whose(-1, 0, 8), -1);
        CHECKS.due(17, "heat 10", x.whose(0, 10, 8), -1);
        CHECKS.due(17, "heat -1", x.whose(0, -1, 8), -1);
        CHECKS.due(17, "row 16", x.whose(0, 0, 16), -1);
        CHECKS.due(17, "row MIN", x.whose(0, 0, MIN), -1);
        CHECKS.due(20, "heats of 8", x.heats(0, 0, 8), 63);
        CHECKS.due(20, "heats of 11", x.heats(0, 0, 11), 1 << 7);
        CHECKS.due(20, "heats of 15", x.heats(0, 0, 15), 1 << 8 | 1 << 9);
        CHECKS.due(20, "heats of 10", x.heats(0, 0, 10), 0);
        CHECKS.due(20, "heats by b", x.heats(0, 1, 8), 1023);
        CHECKS.due(20, "hand 3", x.heats(0, 3, 8), -1);
        CHECKS.due(20, "hand -1", x.heats(0, -1, 8), -1);
        CHECKS.due(20, "seal 1", x.heats(1, 0, 8), -1);
        CHECKS.due(20, "row 16", x.heats(0, 0, 16), -1);
        CHECKS.due(20, "row -1", x.heats(0, 0, -1), -1);
        CHECKS.due(17, "nothing is done", x.about(7), 1);
    }

    private static void made() {
        // PRINTS: 1100, 0011, 0111 (MARK 0 at the right).
        SealCasts x = threeSeals();
        CHECKS.due(18, "made(12, 0)", x.made(12, 0), 1);
        CHECKS.due(18, "made(4, 0)", x.made(4, 0), 0);
        CHECKS.due(18, "made(4, 1)", x.made(4, 1), 1);
        CHECKS.due(18, "made(4, 2)", x.made(4, 2), 5);
        CHECKS.due(18, "made(0, 2)", x.made(0, 2), 3);
        CHECKS.due(18, "made(0, 12)", x.made(0, 12), 7);
        CHECKS.due(18, "made(3, 1)", x.made(3, 1), 6);
        CHECKS.due(18, "made(8 and 1)", x.made(9, 12), 0);
        CHECKS.due(18, "m 13", x.made(0, 13), -1);
        CHECKS.due(18, "m -1", x.made(0, -1), -1);
        CHECKS.due(18, "row 16", x.made(16, 0), -1);
        CHECKS.due(18, "row -1", x.made(-1, 0), -1);
    }

    /** SEALS 0011, 1100 and 1110 (MARK 0 at the right), the last two of the first. */
    private static SealCasts threeSeals() {
        SealCasts x = CHECKS.told("marks 4;first 0 1;hand a wears 0 fills 0;hand b wears 0 fills mark=1;");
        x.cast(0, 0, 0);
        x.cast(0, 1, 0);
        CHECKS.due(11, "seal(1, 0)", x.seal(1, 0), 12);
        CHECKS.due(11, "seal(2, 0)", x.seal(2, 0), 14);
        return x;
    }

    private static void apartAndAlike() {
        SealCasts x = threeSeals();
        CHECKS.due(19, "apart(0, 1, false)", x.apart(0, 1, false), 4);
        CHECKS.due(19, "apart(0, 1, true)", x.apart(0, 1, true), 0);
        CHECKS.due(19, "apart(1, 2, false)", x.apart(1, 2, false), 1);
        CHECKS.due(19, "apart(2, 1, true)", x.apart(2, 1, true), 3);
        CHECKS.due(19, "apart(2, 2, true)", x.apart(2, 2, true), 2);
        CHECKS.due(19, "apart(2, 2, false)", x.apart(2, 2, false), 0);
        CHECKS.due(19, "apart(3, 0, false)", x.apart(3, 0, false), -1);
        CHECKS.due(19, "apart(0, 3, true)", x.apart(0, 3, true), -1);
        CHECKS.due(19, "apart(-1, 0, true)", x.apart(-1, 0, true), -1);
        CHECKS.due(19, "apart(0, -1, true)", x.apart(0, -1, true), -1);
        x.cast(1, 0, 0);
        CHECKS.due(30, "alike(3, false)", x.alike(3, false), 9);
        CHECKS.due(30, "alike(3, true)", x.alike(3, true), 2);
        CHECKS.due(30, "alike(7, true)", x.alike(7, true), 4);
        CHECKS.due(30, "alike(7, false)", x.alike(7, false), 0);
        x.undo();
        CHECKS.due(30, "a SEAL that is no more", x.alike(3, false), 1);
        CHECKS.due(18, "a SEAL that is no more", x.made(12, 0), 1);
        CHECKS.due(30, "alike(16, false)", x.alike(16, false), -1);
        CHECKS.due(30, "alike(-1, true)", x.alike(-1, true), -1);
    }

    private static void luckAndLikely() {
        SealCasts x = CHECKS.told("marks 3;first 0;hand a wears draw<30 fills draw>89 and mark=heat;"
            + "hand b wears draw%2 fills 0;");
        // By a draw below 30 it is worn, from 90 on one comes, else it is 4.
        CHECKS.due(21, "luck of 0", x.luck(0, 0, 0, 0), 30);
        CHECKS.due(21, "luck of 4", x.luck(0, 0, 0, 4), 60);
        CHECKS.due(21, "luck of 5", x.luck(0, 0, 0, 5), 10);
        CHECKS.due(21, "luck of 4 at heat 2", x.luck(0, 0, 2, 4), 70);
        CHECKS.due(21, "luck of 1", x.luck(0, 0, 0, 1), 0);
        CHECKS.due(21, "luck by b", x.luck(0, 1, 0, 4), 50);
        CHECKS.due(21, "row 8", x.luck(0, 0, 0, 8), -1);
        CHECKS.due(21, "row -1", x.luck(0, 0, 0, -1), -1);
        CHECKS.due(21, "seal 1", x.luck(1, 0, 0, 0), -1);
        CHECKS.due(21, "hand 2", x.luck(0, 2, 0, 0), -1);
        CHECKS.due(21, "heat 10", x.luck(0, 0, 10, 0), -1);
        CHECKS.due(22, "likely 0", x.likely(0, 0, 0, 0), 4);
        CHECKS.due(22, "likely 1", x.likely(0, 0, 0, 1), 60);
        CHECKS.due(22, "likely 1 at heat 2", x.likely(0, 0, 2, 1), 70);
        CHECKS.due(22, "of like ones the least", x.likely(0, 1, 0, 0), 0);
        CHECKS.due(22, "of like ones", x.likely(0, 1, 0, 1), 50);
        SealCasts zero = CHECKS.told("marks 3;first 0;hand a wears draw=0 or draw=99 fills 0;");
        CHECKS.due(21, "draws 0 and 99", zero.luck(0, 0, 0, 0), 2);
        CHECKS.due(22, "all but two", zero.likely(0, 0, 0, 1), 98);
        CHECKS.due(22, "what 2", x.likely(0, 0, 0, 2), -1);
        CHECKS.due(22, "what -1", x.likely(0, 0, 0, -1), -1);
        CHECKS.due(22, "seal -1", x.likely(-1, 0, 0, 0), -1);
        CHECKS.due(22, "hand -1", x.likely(0, -1, 0, 0), -1);
        CHECKS.due(22, "heat -1", x.likely(0, 0, -1, 0), -1);
        CHECKS.due(22, "draw is 0 for the others", x.would(1, 0, 0, 0), x.heats(0, 0, 0) == 1023 ? 0 : 99);
    }

    private static void fadesAndRound() {
        SealCasts x = CHECKS.told("marks 4;first 0 1 2;hand a wears mark=0 fills 0;hand b wears mark=0 or heat=9 fills 0;"
            + "hand c wears not right fills has+left*(1-right);hand d wears 0 fills many=0;");
        // 0111 -> 1110 -> 0110 -> 0110: that comes again behind 3, 1 fewer.
        CHECKS.due(32, "round 0", x.round(0, 0, 0, 0), 3);
        CHECKS.due(32, "round 1", x.round(0, 0, 0, 1), 1);
        CHECKS.due(23, "never", x.fades(0, 0, 0), -1);
        CHECKS.due(23, "at heat 9", x.fades(0, 1, 9), 1);
        // All are worn at once, and there is nothing from then on.
        CHECKS.due(32, "round at heat 9", x.round(0, 1, 9, 0), 2);
        CHECKS.due(32, "round at heat 9, fewer", x.round(0, 1, 9, 1), 1);
        SealCasts none = CHECKS.told("hand a wears 0 fills many=0;hand b wears 0 fills 0;");
        CHECKS.due(23, "no MARKS", none.fades(0, 0, 0), 0);
        CHECKS.due(32, "it fills all", none.round(0, 0, 0, 0), 2);
        CHECKS.due(32, "and stays", none.round(0, 0, 0, 1), 1);
        CHECKS.due(32, "it stays", none.round(0, 1, 0, 0), 1);
        CHECKS.due(32, "by one", none.round(0, 1, 0, 1), 1);
        // 1, 8, 2, 12, 4, 6, 10, 14, and 8 again.
        SealCasts y = CHECKS.told("marks 4;first 0;hand a wears mark=0 or left fills left;");
        CHECKS.due(32, "eight", y.round(0, 0, 0, 0), 8);
        CHECKS.due(32, "seven fewer", y.round(0, 0, 0, 1), 7);
        CHECKS.due(23, "never", y.fades(0, 0, 0), -1);
        CHECKS.due(32, "what 2", x.round(0, 0, 0, 2), -1);
        CHECKS.due(32, "what -1", x.round(0, 0, 0, -1), -1);
        CHECKS.due(32, "seal 1", x.round(1, 0, 0, 0), -1);
        CHECKS.due(32, "hand 4", x.round(0, 4, 0, 0), -1);
        CHECKS.due(32, "heat 10", x.round(0, 0, 10, 0), -1);
        CHECKS.due(23, "seal 1", x.fades(1, 0, 0), -1);
        CHECKS.due(23, "hand 4", x.fades(0, 4, 0), -1);
        CHECKS.due(23, "heat 10", x.fades(0, 0, 10), -1);
        SealCasts slow = CHECKS.told("marks 6;first 0 1 2 3 4 5;hand a wears left=0 fills 0;");
        // The least MARK goes each time, TURNED: 6 CASTS.
        CHECKS.due(23, "one by one", slow.fades(0, 0, 0), 6);
        CHECKS.due(32, "round then", slow.round(0, 0, 0, 0), 7);
    }

    private static void kinAndThumb() {
        SealCasts x = CHECKS.told("marks 3;first 0;hand a wears 0 fills mark=1;hand b wears 0 fills mark=0;hand c wears 0 fills 0;");
        x.cast(0, 0, 0);
        x.cast(1, 1, 0);
        x.cast(1, 2, 0);
        x.cast(3, 2, 0);
        x.cast(0, 2, 0);
        // 0: 1.  1 of 0: TURNED 4, with 2: 6.  2 of 1: 3 and 1: 3.  3 of 1: 3.  4 of 3: 6.  5 of 0: 4.
        int[] rows = {1, 6, 3, 3, 6, 4};
        for (int seal = 0; seal < rows.length; seal++) {
            CHECKS.due(11, "seal(" + seal + ", 0)", x.seal(seal, 0), rows[seal]);
        }
        int[][] kins = {{2, 4, 1, 3}, {4, 2, 1, 3}, {4, 5, 0, 4}, {3, 4, 3, 1}, {4, 4, 4, 0}, {0, 4, 0, 3}, {2, 3, 1, 2}};
        for (int[] k : kins) {
            CHECKS.due(24, "kin(" + k[0] + ", " + k[1] + ", 0)", x.kin(k[0], k[1], 0), k[2]);
            CHECKS.due(24, "kin(" + k[0] + ", " + k[1] + ", 1)", x.kin(k[0], k[1], 1), k[3]);
        }
        CHECKS.due(24, "kin(6, 0, 0)", x.kin(6, 0, 0), -1);
        CHECKS.due(24, "kin(0, 6, 0)", x.kin(0, 6, 0), -1);
        CHECKS.due(24, "kin(-1, 0, 0)", x.kin(-1, 0, 0), -1);
        CHECKS.due(24, "kin(0, 0, 2)", x.kin(0, 0, 2), -1);
        CHECKS.due(24, "kin(0, 0, -1)", x.kin(0, 0, -1), -1);
        CHECKS.due(25, "thumb(0, 0)", x.thumb(0, 0), -1);
        CHECKS.due(25, "thumb(0, 1)", x.thumb(0, 1), -2);
        CHECKS.due(25, "thumb(1, 2)", x.thumb(1, 2), -1);
        CHECKS.due(25, "thumb(1, 1)", x.thumb(1, 1), 0);
        CHECKS.due(25, "thumb(2, 0)", x.thumb(2, 0), -1);
        CHECKS.due(25, "thumb(4, 1)", x.thumb(4, 1), 0);
        CHECKS.due(25, "thumb(4, 2)", x.thumb(4, 2), -1);
        CHECKS.due(25, "thumb(4, 0)", x.thumb(4, 0), -2);
        CHECKS.due(25, "thumb(6, 0)", x.thumb(6, 0), -2);
        CHECKS.due(25, "thumb(-1, 0)", x.thumb(-1, 0), -2);
        CHECKS.due(25, "thumb(4, 3)", x.thumb(4, 3), -2);
        CHECKS.due(25, "thumb(4, -1)", x.thumb(4, -1), -2);
        // As ROWS are now: SEAL 3 has lost it, so it seems filled in by hand c.
        x.crack(3, 1);
        CHECKS.due(25, "thumb(4, 1) behind a CRACK", x.thumb(4, 1), 2);
        x.crack(1, 2);
        CHECKS.due(25, "thumb(2, 0) behind a CRACK", x.thumb(2, 0), 1);
    }

    private static void share() {
        SealCasts x = CHECKS.told("marks 12;");
        int[][] wants = {
            {0b000000000111, 1, 100}, {0b100000000011, 2, 67, 33}, {0b110000000001, 2, 33, 67},
            {0b100000010001, 3, 34, 33, 33}, {0b111111111111, 3, 34, 33, 33}, {0b100000000000, 4, 0, 0, 0, 100},
            {0b111000111111, 4, 34, 33, 0, 33}, {0b100100100100, 4, 25, 25, 25, 25}, {0, 3, 0, 0, 0},
            {0b111111000001, 4, 14, 0, 43, 43}, {0b001111000011, 4, 33, 0, 50, 17}};
        for (int[] want : wants) {
            for (int province = 0; province < want[1]; province++) {
                CHECKS.due(26, "share(" + want[0] + ", " + want[1] + ", " + province + ")",
                    x.share(want[0], want[1], province), want[2 + province]);
            }
        }
        CHECKS.due(26, "n 0", x.share(1, 0, 0), -1);
        CHECKS.due(26, "n 5", x.share(1, 5, 0), -1);
        CHECKS.due(26, "n -1", x.share(1, -1, -1), -1);
        CHECKS.due(26, "province 3 of 3", x.share(1, 3, 3), -1);
        CHECKS.due(26, "province -1", x.share(1, 3, -1), -1);
        CHECKS.due(26, "row 4096", x.share(4096, 3, 0), -1);
        CHECKS.due(26, "row -1", x.share(-1, 3, 0), -1);
        SealCasts y = CHECKS.told("marks 5;");
        // MARKS of PROVINCES 0 0 1 1 2.
        CHECKS.due(26, "cut", y.share(31, 3, 0), 40);
        CHECKS.due(26, "cut", y.share(31, 3, 1), 40);
        CHECKS.due(26, "cut", y.share(31, 3, 2), 20);
        SealCasts one = CHECKS.told("marks 1;");
        CHECKS.due(26, "of 4, with one MARK", one.share(1, 4, 0), 100);
        CHECKS.due(26, "of 4, with one MARK", one.share(1, 4, 3), 0);
    }

    private static void forge() {
        SealCasts x = CHECKS.told("marks 4;first 0 1;hand a wears mark=0 fills 0;hand b wears 0 fills heat=9;hand c wears 1 fills 0;");
        CHECKS.due(27, "as the SEAL", x.forge(0, 0, 0, 12, 0), 0);
        CHECKS.due(27, "as the SEAL", x.forge(0, 0, 0, 12, 1), 3);
        // TURNED 2, with MARK 0 or without: 4 or 12; both are 3 from 3 and 4 from it.
        CHECKS.due(27, "fewest", x.forge(0, 0, 0, 2, 0), 3);
        CHECKS.due(27, "its ROW", x.forge(0, 0, 0, 2, 1), 4);
        CHECKS.due(27, "none", x.forge(0, 0, 0, 1, 0), -1);
        CHECKS.due(27, "none", x.forge(0, 0, 0, 1, 1), -1);
        CHECKS.due(27, "any", x.forge(0, 1, 9, 15, 0), 0);
        CHECKS.due(27, "any", x.forge(0, 1, 9, 15, 1), 3);
        CHECKS.due(27, "none at heat 9", x.forge(0, 1, 9, 14, 1), -1);
        CHECKS.due(27, "at heat 8", x.forge(0, 1, 8, 14, 1), 7);
        CHECKS.due(27, "any for nothing", x.forge(0, 2, 0, 0, 1), 3);
        x.crack(0, 0);
        x.crack(0, 1);
        // Of 0 and 8, both for 0, the SEAL itself; for 2: 4.
        CHECKS.due(27, "of like ones", x.forge(0, 0, 0, 0, 1), 0);
        CHECKS.due(27, "fewest", x.forge(0, 0, 0, 2, 0), 1);
        CHECKS.due(27, "what 2", x.forge(0, 0, 0, 2, 2), -1);
        CHECKS.due(27, "what -1", x.forge(0, 0, 0, 2, -1), -1);
        CHECKS.due(27, "seal 1", x.forge(1, 0, 0, 2, 0), -1);
        CHECKS.due(27, "hand 3", x.forge(0, 3, 0, 2, 0), -1);
        CHECKS.due(27, "heat 10", x.forge(0, 0, 10, 2, 0), -1);
        CHECKS.due(27, "row 16", x.forge(0, 0, 0, 16, 0), -1);
        CHECKS.due(27, "row -1", x.forge(0, 0, 0, -1, 0), -1);
        // The SEAL has both, of the ROWS with one of them the least counts.
        SealCasts y = CHECKS.told("marks 2;first 0 1;hand a wears many=2 fills many=1;");
        CHECKS.due(27, "of like ones the least", y.forge(0, 0, 0, 3, 1), 1);
        CHECKS.due(27, "how many MARKS", y.forge(0, 0, 0, 3, 0), 1);
    }

    private static void nearest() {
        SealCasts x = threeSeals();
        int[][] wants = {
            // ROW, MARKS, SEAL, by its ROW
            {12, 0, 0, 0}, {3, 0, 1, 0}, {7, 0, 2, 0}, {14, 0, 2, 1}, {0, 2, 0, 0}, {15, 1, 2, 0}, {6, 1, 2, 0}, {8, 1, 0, 0}};
        for (int[] want : wants) {
            for (int what = 0; what < 3; what++) {
                CHECKS.due(28, "nearest(" + want[0] + ", " + what + ")", x.nearest(want[0], what), want[1 + what]);
            }
        }
        CHECKS.due(28, "what 3", x.nearest(0, 3), -1);
        CHECKS.due(28, "what -1", x.nearest(0, -1), -1);
        CHECKS.due(28, "row 16", x.nearest(16, 0), -1);
        CHECKS.due(28, "row -1", x.nearest(-1, 1), -1);
    }

    private static void common() {
        SealCasts x = threeSeals();
        CHECKS.due(29, "all SEALS", x.common(0), 0);
        CHECKS.due(29, "some", x.common(1), 15);
        CHECKS.due(29, "no PRINTS", x.common(2), 15);
        x.print(1);
        CHECKS.due(29, "one PRINT", x.common(2), 3);
        x.print(2);
        CHECKS.due(29, "two PRINTS", x.common(2), 3);
        x.print(0);
        CHECKS.due(29, "three PRINTS", x.common(2), 0);
        CHECKS.due(29, "what 3", x.common(3), -1);
        CHECKS.due(29, "what -1", x.common(-1), -1);
        x.undo();
        x.undo();
        x.undo();
        x.undo();
        x.undo();
        CHECKS.due(29, "one SEAL, all", x.common(0), 3);
        CHECKS.due(29, "one SEAL, some", x.common(1), 3);
        x.crack(0, 0);
        CHECKS.due(29, "without MARK 0", x.common(1), 2);
        CHECKS.due(29, "without MARK 0", x.common(0), 2);
    }

    private static void tell() {
        SealCasts x = CHECKS.told("marks 4;");
        CHECKS.due(31, "one SEAL", x.tell(), 0);
        CHECKS.lies(31, x);
        // SEALS 0011, 1100, 1110: MARKS 0 and 1 tell them apart (11, 00, 10).
        SealCasts y = threeSeals();
        CHECKS.due(31, "three", y.tell(), 2);
        CHECKS.lies(31, y, 0, 1);
        // Like ROWS need not be told apart.
        y.cast(1, 0, 0);
        y.cast(0, 0, 0);
        CHECKS.due(31, "with like ones", y.tell(), 2);
        CHECKS.lies(31, y, 0, 1);
        y.crack(0, 0);
        y.crack(0, 1);
        // 0000, 1100, 1110, 0011, 1100: MARKS 0 and 2 (00, 01, 01) do not, 1 and 2 do (00, 01, 11, 10).
        CHECKS.due(31, "another time", y.tell(), 2);
        CHECKS.lies(31, y, 1, 2);
    }

    private static void steadyAndAgainst() {
        SealCasts x = CHECKS.told("marks 3;hand a wears 0 fills 0;hand b wears mark=0 fills 0;hand c wears heat fills many=3;"
            + "hand d wears has fills 1;");
        CHECKS.due(33, "all", x.steady(0, 0, 0), 8);
        CHECKS.due(33, "all", x.steady(0, 0, 1), 7);
        // MARKS 0 and 2 go sooner or later; MARK 1 stays: 0 and 2.
        CHECKS.due(33, "two", x.steady(1, 0, 0), 2);
        CHECKS.due(33, "the middle", x.steady(1, 0, 1), 2);
        CHECKS.due(33, "nothing", x.steady(2, 1, 0), 1);
        CHECKS.due(33, "nothing", x.steady(2, 1, 1), 0);
        CHECKS.due(33, "to and fro", x.steady(3, 0, 0), 8);
        SealCasts two = CHECKS.told("marks 2;hand a wears mark=0 fills mark=1;hand b wears has*many=1 fills mark=0;");
        // 0 -> 2 -> 0? TURNED 2 is 1: MARK 0 goes, MARK 1 comes: 2. So 2 alone is as it was.
        CHECKS.due(33, "one", two.steady(0, 0, 0), 1);
        CHECKS.due(33, "it", two.steady(0, 0, 1), 2);
        SealCasts three = CHECKS.told("marks 1;hand a wears year=0 fills year;");
        CHECKS.due(33, "in YEAR 0", three.steady(0, 0, 0), 1);
        three.year();
        CHECKS.due(33, "in YEAR 1", three.steady(0, 0, 0), 1);
        CHECKS.due(33, "in YEAR 1", three.steady(0, 0, 1), 1);
        // 0, 1, 2, 3 and 0 again.
        SealCasts four = CHECKS.told("marks 2;hand a wears left or right fills left or mark=0 and not right;");
        CHECKS.due(33, "none", four.steady(0, 0, 0), 0);
        CHECKS.due(33, "none", four.steady(0, 0, 1), -1);
        CHECKS.due(32, "round of four", four.round(0, 0, 0, 0), 4);
        CHECKS.due(32, "round of four", four.round(0, 0, 0, 1), 4);
        SealCasts like = CHECKS.told("marks 3;hand a wears many>2 fills 0;hand b wears 1 fills many>0;");
        CHECKS.due(33, "all but one", like.steady(0, 0, 0), 7);
        CHECKS.due(33, "of those with most MARKS the least", like.steady(0, 0, 1), 3);
        CHECKS.due(33, "what 2", x.steady(0, 0, 2), -1);
        CHECKS.due(33, "what -1", x.steady(0, 0, -1), -1);
        CHECKS.due(33, "hand 4", x.steady(4, 0, 0), -1);
        CHECKS.due(33, "hand -1", x.steady(-1, 0, 0), -1);
        CHECKS.due(33, "heat 10", x.steady(0, 10, 0), -1);
        CHECKS.due(34, "with itself", x.against(0, 0, 0), 0);
        // All with MARK 0 when TURNED: 4 of 8.
        CHECKS.due(34, "a and b", x.against(0, 1, 0), 4);
        CHECKS.due(34, "b and a", x.against(1, 0, 5), 4);
        CHECKS.due(34, "a and c at heat 0", x.against(0, 2, 0), 0);
        CHECKS.due(34, "a and c at heat 1", x.against(0, 2, 1), 7);
        CHECKS.due(34, "a and d", x.against(0, 3, 1), 8);
        CHECKS.due(34, "hand 4", x.against(0, 4, 0), -1);
        CHECKS.due(34, "hand -1", x.against(-1, 0, 0), -1);
        CHECKS.due(34, "heat 10", x.against(0, 1, 10), -1);
        CHECKS.due(34, "heat -1", x.against(0, 1, -1), -1);
    }

    private static void wax() {
        SealCasts x = CHECKS.told("marks 4;first 0;wax 0;hand a wears 0 fills heat=2 and mark=1;hand b wears mark=3 fills 0;");
        CHECKS.due(35, "a SEAL has it", x.wax(1), 0);
        CHECKS.lies(35, x, 0);
        CHECKS.due(35, "one CAST", x.wax(8), 1);
        CHECKS.lies(35, x, 0, 0);
        CHECKS.due(35, "nothing", x.wax(0), 1);
        CHECKS.lies(35, x, 0, 10);
        CHECKS.due(35, "with heat 2", x.wax(10), 3);
        CHECKS.lies(35, x, 0, 2);
        // 0001 -> 1010 (heat 2) -> 0101; not 0001 -> 1000 -> 0001 with MARK 1: 0011.
        CHECKS.due(35, "two CASTS", x.wax(5), 4);
        CHECKS.lies(35, x, 0, 2, 0);
        CHECKS.due(35, "two CASTS", x.wax(3), 4);
        CHECKS.lies(35, x, 0, 0, 2);
        // 0001 -> 1000 -> 0011 (heat 2) -> 0100, ahead of 0001 -> 0000 -> 0010 (heat 2) -> 0100.
        CHECKS.due(35, "three CASTS", x.wax(4), 5);
        CHECKS.lies(35, x, 0, 0, 2, 10);
        CHECKS.due(35, "no way", x.wax(9), -1);
        CHECKS.lies(35, x);
        x.wax(1);
        CHECKS.due(35, "row 16", x.wax(16), -1);
        CHECKS.lies(35, x);
        x.wax(1);
        CHECKS.due(35, "row -1", x.wax(-1), -1);
        CHECKS.lies(35, x);
    }

    private static void waxOfLikeOnes() {
        // Twice by hand a at no heat, or once by hand b at heat 1: 2 wax each, hand a first.
        String longer = "hand a wears 0 fills left;";
        String hotter = "hand b wears 1 fills heat=1 and mark<2;";
        SealCasts x = CHECKS.told("marks 4;first 0;" + longer + hotter);
        CHECKS.due(35, "longer first", x.wax(3), 2);
        CHECKS.lies(35, x, 0, 0, 0);
        SealCasts y = CHECKS.told("marks 4;first 0;" + hotter + longer);
        CHECKS.due(35, "hotter first", y.wax(3), 2);
        CHECKS.lies(35, y, 0, 1);
        // Of two SEALS from which it costs as much the first, though another one is nearer by a later HAND.
        SealCasts z = CHECKS.told("marks 4;first 0;hand a wears 0 fills many=4;hand b wears 1 fills mark<2;");
        z.cast(0, 0, 0);
        CHECKS.due(35, "of two SEALS the first", z.wax(3), 1);
        CHECKS.lies(35, z, 0, 10);
        CHECKS.due(35, "one has it", z.wax(8), 0);
        CHECKS.lies(35, z, 1);
        SealCasts slow = CHECKS.told("marks 6;first 0 1 2 3 4 5;wax 1;hand a wears left=0 fills 0;");
        CHECKS.due(35, "four CASTS", slow.wax(12), 4);
        CHECKS.lies(35, slow, 0, 0, 0, 0, 0);
        CHECKS.due(35, "not five", slow.wax(8), -1);
        CHECKS.lies(35, slow);
        CHECKS.due(11, "cast", slow.cast(0, 0, 0), 1);
        CHECKS.due(35, "four from the next SEAL", slow.wax(8), 4);
        CHECKS.lies(35, slow, 1, 0, 0, 0, 0);
        SealCasts hot = CHECKS.told("marks 2;hand a wears 0 fills heat=mark+3;hand b wears 0 fills year>0 and mark=1;");
        CHECKS.due(35, "heat 3", hot.wax(1), 4);
        CHECKS.lies(35, hot, 0, 3);
        CHECKS.due(35, "not heat 4, but TURNED", hot.wax(2), 5);
        CHECKS.lies(35, hot, 0, 3, 0);
        hot.year();
        CHECKS.due(35, "in this YEAR", hot.wax(2), 1);
        CHECKS.lies(35, hot, 0, 10);
    }
}
