/** Promises 6 to 16 and 50 to 52: SEALS, PRINTS, ACTS, UNDO and REDO, BOXES. */
public final class CourtPromisesTest {
    private static final Checks CHECKS = new Checks("CourtPromisesTest");

    public static void main(String[] args) {
        sealsAndPrints();
        would();
        casts();
        refusedActs();
        years();
        undone();
        fortyAreKept();
        boxes();
        limits();
        CHECKS.end();
    }

    private static void sealsAndPrints() {
        SealCasts x = CHECKS.told("marks 4;first 0 1;hand a wears mark=0 fills 0;hand b wears 0 fills left;");
        x.cast(0, 0, 0);
        x.year();
        x.cast(1, 1, 2);
        int[][] want = {{3, -1, -1, 0, 0}, {12, 0, 0, 0, 1}, {7, 1, 1, 1, 2}};
        for (int seal = 0; seal < want.length; seal++) {
            for (int what = 0; what < 5; what++) {
                CHECKS.due(6, "seal(" + seal + ", " + what + ")", x.seal(seal, what), want[seal][what]);
            }
            CHECKS.due(6, "seal(" + seal + ", 5)", x.seal(seal, 5), -1);
            CHECKS.due(6, "seal(" + seal + ", -1)", x.seal(seal, -1), -1);
        }
        CHECKS.due(6, "seal(3, 0)", x.seal(3, 0), -1);
        CHECKS.due(6, "seal(-1, 0)", x.seal(-1, 0), -1);
        CHECKS.due(12, "print(2)", x.print(2), 0);
        x.year();
        CHECKS.due(12, "print(0)", x.print(0), 1);
        x.year();
        CHECKS.due(12, "print(2)", x.print(2), 2);
        int[][] shown = {{14, 2, 1}, {12, 0, 2}, {14, 2, 3}};
        for (int print = 0; print < shown.length; print++) {
            for (int what = 0; what < 3; what++) {
                CHECKS.due(7, "shown(" + print + ", " + what + ")", x.shown(print, what), shown[print][what]);
            }
            CHECKS.due(7, "shown(" + print + ", 3)", x.shown(print, 3), -1);
        }
        CHECKS.due(7, "shown(3, 0)", x.shown(3, 0), -1);
        CHECKS.due(7, "shown(-1, 0)", x.shown(-1, 0), -1);
        int[][] prints = {{14, 2, 1, 3}, {12, 1, 2, 2}, {0, 0, -1, -1}, {16, -1, -1, -1}, {-1, -1, -1, -1}};
        for (int[] row : prints) {
            for (int what = 0; what < 3; what++) {
                CHECKS.due(8, "prints(" + row[0] + ", " + what + ")", x.prints(row[0], what), row[what + 1]);
            }
        }
        CHECKS.due(8, "prints(14, 3)", x.prints(14, 3), -1);
        CHECKS.due(8, "prints(14, -1)", x.prints(14, -1), -1);
        // A PRINT stays as it was made, though the SEAL cracks.
        x.crack(2, 0);
        CHECKS.due(13, "shown(0, 0)", x.shown(0, 0), 14);
        CHECKS.due(9, "turned(6)", x.turned(6), 6);
        CHECKS.due(9, "turned(1)", x.turned(1), 8);
        CHECKS.due(9, "turned(11)", x.turned(11), 13);
        CHECKS.due(9, "turned(15)", x.turned(15), 15);
        CHECKS.due(9, "turned(16)", x.turned(16), -1);
        CHECKS.due(9, "turned(-1)", x.turned(-1), -1);
        SealCasts wide = CHECKS.told("marks 12;");
        CHECKS.due(9, "turned(1) of 12", wide.turned(1), 2048);
        CHECKS.due(9, "turned(2066) of 12", wide.turned(2066), 1153);
        CHECKS.due(9, "turned(4096) of 12", wide.turned(4096), -1);
        SealCasts one = CHECKS.told("marks 1;");
        CHECKS.due(9, "turned(1) of 1", one.turned(1), 1);
        CHECKS.due(9, "turned(2) of 1", one.turned(2), -1);
    }

    private static void would() {
        SealCasts x = CHECKS.told("marks 5;hand m wears 0 fills mark=3;"
            + "hand n wears has fills right;hand l wears left+right=2 fills has;hand y wears many>2 fills year*10+heat=13;");
        CHECKS.due(10, "mark", x.would(0, 0, 0, 0), 8);
        // MARKS 0, 2, 3, TURNED 4, 2, 1: these go, and those come that have one of them at their right.
        CHECKS.due(10, "has and right", x.would(0b01101, 1, 0, 0), 0b01001);
        CHECKS.due(10, "both neighbours", x.would(0b11111, 2, 0, 0), 0b10001);
        CHECKS.due(10, "many of 3", x.would(0b00111, 3, 0, 0), 0);
        CHECKS.due(10, "many of 2", x.would(0b00011, 3, 0, 0), 0b11000);
        CHECKS.due(10, "year 0, heat 3", x.would(0, 3, 3, 0), 0);
        x.year();
        CHECKS.due(10, "year 1, heat 3", x.would(0, 3, 3, 0), 31);
        CHECKS.due(10, "year 1, heat 2", x.would(0, 3, 2, 0), 0);
        x.undo();
        CHECKS.due(10, "year 0 again", x.would(0, 3, 3, 0), 0);
        x.redo();
        CHECKS.due(10, "year 1 again", x.would(0, 3, 3, 0), 31);
        CHECKS.due(10, "would(32, ..)", x.would(32, 0, 0, 0), -1);
        CHECKS.due(10, "would(-1, ..)", x.would(-1, 0, 0, 0), -1);
        CHECKS.due(10, "hand 4", x.would(0, 4, 0, 0), -1);
        CHECKS.due(10, "hand -1", x.would(0, -1, 0, 0), -1);
        CHECKS.due(10, "heat 10", x.would(0, 0, 10, 0), -1);
        CHECKS.due(10, "heat -1", x.would(0, 0, -1, 0), -1);
        CHECKS.due(10, "draw 100", x.would(0, 0, 0, 100), -1);
        CHECKS.due(10, "draw -1", x.would(0, 0, 0, -1), -1);
        CHECKS.due(10, "heat 9, draw 99", x.would(0, 0, 9, 99), 8);
        SealCasts wide = CHECKS.told("marks 12;hand a wears many=12 and mark%2 fills many=0;hand b wears many-11 fills 0;");
        CHECKS.due(10, "many of 12", wide.would(4095, 0, 0, 0), 0b010101010101);
        CHECKS.due(10, "many of 11", wide.would(4094, 0, 0, 0), 0b011111111111);
        CHECKS.due(10, "many of 0", wide.would(0, 0, 0, 0), 4095);
        CHECKS.due(10, "many of 12", wide.would(4095, 1, 0, 0), 0);
        CHECKS.due(10, "many of 11", wide.would(2047, 1, 0, 0), 4094);
        SealCasts d = CHECKS.told("marks 7;hand a wears 0 fills draw/(mark*mark*mark+1)%2;");
        CHECKS.due(10, "draw 99", d.would(0, 0, 0, 99), 31);
        CHECKS.due(10, "draw 1", d.would(0, 0, 0, 1), 1);
        CHECKS.due(10, "draw 99 again", d.would(0, 0, 0, 99), 31);
    }

    private static void casts() {
        SealCasts x = CHECKS.told("marks 7;draw 500;wax 30;hand a wears 1 fills draw/(mark*mark*mark+1)%2;");
        int seed = 500;
        int row = 0;
        int wax = 30;
        for (int seal = 1; seal <= 5; seal++) {
            seed = (seed * 137 + 71) % 1000;
            int next = x.would(row, 0, seal, seed % 100);
            CHECKS.due(11, "cast", x.cast(seal - 1, 0, seal), seal);
            CHECKS.due(11, "its ROW", x.seal(seal, 0), next);
            wax -= 1 + seal;
            CHECKS.due(11, "the wax", x.about(4), wax);
            CHECKS.due(11, "the SEED", x.about(6), seed);
            CHECKS.due(52, "SEALS", x.about(2), seal + 1);
            row = next;
        }
        CHECKS.due(11, "too dear", x.cast(0, 0, 9 + 1), -1);
        CHECKS.due(11, "cast for all but one", x.cast(0, 0, 8), 6);
        CHECKS.due(11, "too little wax", x.cast(0, 0, 1), -1);
        CHECKS.due(11, "the SEED stays", x.about(6), (seed * 137 + 71) % 1000);
        CHECKS.due(11, "wax", x.about(4), 1);
        CHECKS.due(11, "ACTS", x.about(7), 6);
        CHECKS.due(11, "cast for the last", x.cast(6, 0, 0), 7);
        CHECKS.due(12, "no wax", x.print(0), -1);
        CHECKS.due(11, "no wax", x.cast(0, 0, 0), -1);
        x.undo();
        CHECKS.due(12, "print for the last", x.print(0), 0);
        CHECKS.due(12, "the wax", x.about(4), 0);
    }

    private static void refusedActs() {
        SealCasts x = CHECKS.told("first 0 7;hand a wears 0 fills 0;");
        int[][] wrong = {{1, 0, 0}, {-1, 0, 0}, {0, 1, 0}, {0, -1, 0}, {0, 0, 10}, {0, 0, -1}};
        for (int[] w : wrong) {
            CHECKS.due(11, "cast", x.cast(w[0], w[1], w[2]), -1);
        }
        CHECKS.due(12, "print(1)", x.print(1), -1);
        CHECKS.due(12, "print(-1)", x.print(-1), -1);
        CHECKS.due(13, "crack(1, 0)", x.crack(1, 0), false);
        CHECKS.due(13, "crack(-1, 0)", x.crack(-1, 0), false);
        CHECKS.due(13, "crack(0, 1)", x.crack(0, 1), false);
        CHECKS.due(13, "crack(0, 8)", x.crack(0, 8), false);
        CHECKS.due(13, "crack(0, 32)", x.crack(0, 32), false);
        CHECKS.due(13, "crack(0, -1)", x.crack(0, -1), false);
        CHECKS.due(15, "undo()", x.undo(), false);
        CHECKS.due(16, "redo()", x.redo(), false);
        int[] want = {1, 8, 1, 0, 100, 0, 0, 0, 0};
        for (int what = 0; what < want.length; what++) {
            CHECKS.due(52, "about(" + what + ")", x.about(what), want[what]);
        }
        CHECKS.due(13, "crack(0, 7)", x.crack(0, 7), true);
        CHECKS.due(13, "its ROW", x.seal(0, 0), 1);
        CHECKS.due(13, "no wax for it", x.about(4), 100);
        CHECKS.due(52, "about(14)", x.about(14), -1);
        CHECKS.due(52, "about(-1)", x.about(-1), -1);
    }

    private static void years() {
        SealCasts x = new SealCasts();
        for (int year = 1; year <= 999; year++) {
            CHECKS.due(14, "year()", x.year(), year);
        }
        CHECKS.due(14, "year() above 999", x.year(), -1);
        CHECKS.due(14, "about(5)", x.about(5), 999);
        CHECKS.due(14, "about(7)", x.about(7), 40);
        CHECKS.due(15, "undo()", x.undo(), true);
        CHECKS.due(14, "year() again", x.year(), 999);
    }

    private static void undone() {
        SealCasts x = CHECKS.told("first 0 1;wax 20;draw 3;hand a wears draw%2 and mark=6 fills 0;");
        x.cast(0, 0, 2);
        x.print(1);
        x.crack(1, 7);
        x.year();
        x.cast(1, 0, 0);
        int[] all = state(x);
        int steps = 0;
        while (steps < 99 && x.undo()) {
            steps++;
            CHECKS.due(52, "about(8)", x.about(8), steps);
            CHECKS.due(52, "about(7)", x.about(7), 5 - steps);
        }
        CHECKS.due(15, "steps", steps, 5);
        int[] first = {1, 0, 20, 0, 3, 3, -1, -1, -1};
        same(15, state(x), first);
        for (int i = 0; i < 5; i++) {
            CHECKS.due(16, "redo()", x.redo(), true);
        }
        CHECKS.due(16, "redo()", x.redo(), false);
        same(16, state(x), all);
        x.undo();
        x.undo();
        CHECKS.due(15, "the YEAR is back", x.about(5), 0);
        x.undo();
        CHECKS.due(15, "the CRACK is back", x.seal(1, 0), 192);
        CHECKS.due(16, "redo()", x.redo(), true);
        CHECKS.due(16, "the CRACK again", x.seal(1, 0), 64);
        CHECKS.due(12, "another ACT", x.print(0), 1);
        CHECKS.due(16, "redo() behind another ACT", x.redo(), false);
        CHECKS.due(52, "about(8)", x.about(8), 0);
        CHECKS.due(52, "about(7)", x.about(7), 4);
        // What is refused is no ACT.
        x.undo();
        x.print(9);
        x.crack(0, 5);
        x.cast(0, 9, 0);
        x.sample(1, false);
        x.image(0);
        CHECKS.due(16, "redo() behind what is no ACT", x.redo(), true);
    }

    private static int[] state(SealCasts x) {
        return new int[] {x.about(2), x.about(3), x.about(4), x.about(5), x.about(6), x.seal(0, 0), x.seal(1, 0),
            x.seal(2, 0), x.shown(0, 0)};
    }

    private static void same(int promise, int[] got, int[] want) {
        for (int i = 0; i < want.length; i++) {
            CHECKS.due(promise, "state " + i, got[i], want[i]);
        }
    }

    private static void fortyAreKept() {
        SealCasts x = CHECKS.told("first 0 1 2 3 4 5 6 7;");
        for (int mark = 0; mark < 8; mark++) {
            x.crack(0, mark);
        }
        for (int i = 0; i < 35; i++) {
            x.year();
        }
        CHECKS.due(15, "about(7)", x.about(7), 40);
        int steps = 0;
        while (steps < 99 && x.undo()) {
            steps++;
        }
        CHECKS.due(15, "steps", steps, 40);
        CHECKS.due(15, "the oldest are gone", x.seal(0, 0), 0b11111000);
        CHECKS.due(15, "the YEAR", x.about(5), 0);
        CHECKS.due(52, "about(8)", x.about(8), 40);
        while (steps > -99 && x.redo()) {
            steps--;
        }
        CHECKS.due(16, "steps", steps, 0);
        CHECKS.due(16, "the YEAR", x.about(5), 35);
        CHECKS.due(16, "the ROW", x.seal(0, 0), 0);
    }

    private static void boxes() {
        SealCasts x = CHECKS.told("first 0;wax 50;hand a wears 0 fills 0;");
        CHECKS.due(50, "image(3)", x.image(3), -1);
        CHECKS.due(50, "image(-1)", x.image(-1), -1);
        CHECKS.due(51, "back(0)", x.back(0), -1);
        CHECKS.due(51, "back(3)", x.back(3), -1);
        CHECKS.due(51, "back(-1)", x.back(-1), -1);
        x.cast(0, 0, 0);
        x.print(1);
        x.year();
        CHECKS.due(50, "image(2)", x.image(2), 2);
        CHECKS.due(50, "ACTS stay", x.about(7), 3);
        x.crack(0, 0);
        x.cast(1, 0, 0);
        x.print(1);
        x.year();
        x.sample(1, true);
        x.later(3);
        CHECKS.due(50, "image(0)", x.image(0), 3);
        CHECKS.due(51, "back(1)", x.back(1), -1);
        CHECKS.due(51, "back(2)", x.back(2), 2);
        int[] want = {1, 8, 2, 1, 48, 1, 71, 0, 0, 1, 3};
        for (int what = 0; what < want.length; what++) {
            CHECKS.due(51, "about(" + what + ")", x.about(what), want[what]);
        }
        CHECKS.due(51, "the CRACK is not", x.seal(0, 0), 1);
        CHECKS.due(51, "undo()", x.undo(), false);
        CHECKS.due(51, "redo()", x.redo(), false);
        x.crack(0, 0);
        CHECKS.due(51, "back(2) once more", x.back(2), 2);
        CHECKS.due(51, "the BOX is as it was", x.seal(0, 0), 1);
        x.year();
        x.undo();
        CHECKS.due(51, "back(0)", x.back(0), 3);
        CHECKS.due(51, "seal(2, 3)", x.seal(2, 3), 1);
        CHECKS.due(51, "shown(1, 1)", x.shown(1, 1), 1);
        CHECKS.due(51, "redo()", x.redo(), false);
        CHECKS.due(50, "image(0) anew", x.image(0), 3);
    }

    private static void limits() {
        SealCasts x = CHECKS.told("wax 999;first 0;hand a wears 0 fills 0;");
        for (int seal = 1; seal < 24; seal++) {
            CHECKS.due(11, "cast", x.cast(seal - 1, 0, 0), seal);
        }
        CHECKS.due(11, "a 25th SEAL", x.cast(0, 0, 0), -1);
        CHECKS.due(6, "seal(23, 4)", x.seal(23, 4), 23);
        for (int print = 0; print < 40; print++) {
            CHECKS.due(12, "print", x.print(23), print);
        }
        CHECKS.due(12, "a 41st PRINT", x.print(0), -1);
        CHECKS.due(12, "the wax", x.about(4), 999 - 23 - 40);
        CHECKS.due(52, "about(2)", x.about(2), 24);
        CHECKS.due(52, "about(3)", x.about(3), 40);
        x.undo();
        CHECKS.due(12, "a 40th again", x.print(0), 39);
    }
}
