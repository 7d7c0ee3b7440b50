/** Objects in which there is something of everything, to see what a call leaves as it was. */
final class Busy {
    static final String TEXT = "marks 4;first 0 1;hand a wears draw%2 and mark=1 fills heat and left;"
        + "hand b wears 0 fills year and mark=heat;wax 60;draw 5;";
    /** What is told to the TAPE behind that, and not read yet. */
    static final String ON_TAPE = "first 5;wax 7;";

    private Busy() {
    }

    /** Three SEALS, a PRINT, ACTS to undo and two to redo, FACTS in two times, one BOX, numbers that lie there. */
    static SealCasts object() {
        SealCasts x = new SealCasts();
        Checks.feedText(x, TEXT);
        x.chancery();
        x.cast(0, 0, 2);
        x.print(1);
        x.year();
        x.image(1);
        x.cast(1, 1, 0);
        x.crack(0, 0);
        x.print(2);
        x.year();
        x.undo();
        x.undo();
        tellFacts(x);
        x.wax(x.seal(2, 0));
        Checks.feedText(x, ON_TAPE);
        return x;
    }

    private static void tellFacts(SealCasts x) {
        x.sample(3, false);
        x.claim(15, 1, 0);
        x.saw(1, 3, true);
        x.link(0, 1, true);
        x.later(2);
        x.sample(6, true);
        x.claim(0, 2, 1);
        x.saw(1, 7, false);
        x.link(1, 2, true);
        x.later(1);
        x.untell(0);
    }

    /** One whose latest chancery() had a FAULT. */
    static SealCasts withFault() {
        SealCasts x = object();
        x.end(0);
        Checks.feedText(x, "draw 3;marks 4;");
        x.chancery();
        return x;
    }

    /** One without any wax. */
    static SealCasts withoutWax() {
        SealCasts x = object();
        for (int heat = 9; heat >= 0; heat--) {
            for (int i = 0; i < 10 && x.about(4) > heat; i++) {
                x.cast(0, 0, heat);
            }
        }
        x.year();
        x.undo();
        return x;
    }

    private static SealCasts rich() {
        SealCasts x = new SealCasts();
        Checks.feedText(x, "marks 4;first 0 1;hand a wears 0 fills heat=mark;wax 999;");
        x.chancery();
        return x;
    }

    /** One with 24 SEALS. */
    static SealCasts withAllSeals() {
        SealCasts x = rich();
        for (int seal = 1; seal < 24; seal++) {
            x.cast(seal / 2, 0, seal % 5);
        }
        x.year();
        x.undo();
        return x;
    }

    /** One with 40 PRINTS. */
    static SealCasts withAllPrints() {
        SealCasts x = rich();
        x.cast(0, 0, 2);
        for (int print = 0; print < 40; print++) {
            x.print(print % 2);
        }
        x.year();
        x.undo();
        return x;
    }

    /** One with 40 FACTS, the last of each sort among them. */
    static SealCasts withAllFacts() {
        SealCasts x = object();
        for (int fact = x.about(9); fact < 36; fact++) {
            x.sample(fact % 16, fact % 3 == 0);
        }
        x.claim(15, 0, 0);
        x.saw(1, 5, true);
        x.link(2, 3, false);
        x.sample(9, false);
        return x;
    }

    /** One with 1,600 bytes on the TAPE, all of which can be read. */
    static SealCasts withFullTape() {
        SealCasts x = object();
        x.end(0);
        Checks.feedText(x, "wax 3;" + " ".repeat(1600 - 6 - 8) + "draw 12;");
        return x;
    }
}
