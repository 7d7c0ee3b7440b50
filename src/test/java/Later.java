import java.util.ArrayList;
import java.util.List;

/**
 * All that later calls show of an object, as a list of calls with their answers. It asks first what changes
 * nothing, then undoes, redoes, goes back to each BOX and reads the TAPE, which uses the object up.
 */
final class Later {
    /** An object is used for at most 512 calls, so not every step is looked at. */
    private static final int STEPS_SHOWN = 5;

    private final SealCasts x;
    private final List<String> answers = new ArrayList<>();

    private Later(SealCasts x) {
        this.x = x;
    }

    static List<String> answers(SealCasts x) {
        Later later = new Later(x);
        later.numbers();
        later.court();
        int time = x.about(10);
        later.facts(time);
        later.facts(time - 1);
        later.asked();
        later.undone();
        later.boxes();
        later.untold();
        later.tape();
        return later.answers;
    }

    private void say(String call, int answer) {
        answers.add(call + " = " + answer);
    }

    private void numbers() {
        for (int what = 0; what < 14; what++) {
            say("about(" + what + ")", x.about(what));
        }
        say("fault(0)", x.fault(0));
        say("fault(1)", x.fault(1));
        lying("ahead of all");
    }

    private void lying(String behind) {
        for (int i = 0; i <= x.about(13); i++) {
            say("lies(" + i + ") " + behind, x.lies(i));
        }
    }

    private void court() {
        for (int seal = 0; seal < x.about(2); seal++) {
            for (int what = 0; what < 5; what++) {
                say("seal(" + seal + ", " + what + ")", x.seal(seal, what));
            }
        }
        for (int print = 0; print < Math.min(x.about(3), 4); print++) {
            for (int what = 0; what < 3; what++) {
                say("shown(" + print + ", " + what + ")", x.shown(print, what));
            }
        }
    }

    private void facts(int k) {
        for (int what = 0; what < 2; what++) {
            String rest = what + ", " + k + ")";
            say("origin(" + rest, x.origin(what, k));
            say("centre(" + rest, x.centre(what, k));
            say("clans(3, " + rest, x.clans(3, what, k));
            say("span(1, " + rest, x.span(1, what, k));
            say("tree(0, " + rest, x.tree(0, what, k));
        }
        lying("behind tree at " + k);
        for (int paper = 0; paper < 4; paper++) {
            say("backward(" + paper + ", " + k + ")", x.backward(paper, k));
        }
        say("falses(" + k + ")", x.falses(k));
        lying("behind falses at " + k);
    }

    private void asked() {
        say("tell()", x.tell());
        lying("behind tell");
        say("wax(2)", x.wax(2));
        lying("behind wax");
        int all = (1 << x.about(1)) - 1;
        for (int hand = 0; hand < x.about(0); hand++) {
            for (int row : new int[] {0, 1, all}) {
                say("would(" + row + ", " + hand + ", 0, 1)", x.would(row, hand, 0, 1));
                say("would(" + row + ", " + hand + ", 3, 41)", x.would(row, hand, 3, 41));
                say("would(" + row + ", " + hand + ", 9, 0)", x.would(row, hand, 9, 0));
            }
        }
        say("common(1)", x.common(1));
        say("common(2)", x.common(2));
        for (int hand = 0; hand < x.about(0); hand++) {
            byHand(hand);
        }
    }

    private void byHand(int hand) {
        String by = " by HAND " + hand;
        for (int what = 0; what < 2; what++) {
            say("round " + what + by, x.round(0, hand, 0, what));
            say("steady " + what + by, x.steady(hand, 0, what));
            say("likely " + what + by, x.likely(0, hand, 0, what));
        }
        say("fades" + by, x.fades(0, hand, 0));
        say("forge" + by, x.forge(0, hand, 0, 1, 1));
        say("against" + by, x.against(hand, 0, 0));
    }

    private void step(String call) {
        for (int what = 2; what < 9; what++) {
            say("about(" + what + ") behind " + call, x.about(what));
        }
        say("common(1) behind " + call, x.common(1));
        say("common(2) behind " + call, x.common(2));
    }

    private void undone() {
        for (int i = 0; i < 40 && x.undo(); i++) {
            if (i < STEPS_SHOWN) {
                step("undo");
            }
        }
        step("all undone");
        for (int i = 0; i < 40 && x.redo(); i++) {
            if (i < STEPS_SHOWN) {
                step("redo");
            }
        }
        step("all redone");
    }

    private void boxes() {
        for (int box = 0; box < 3; box++) {
            int seals = x.back(box);
            say("back(" + box + ")", seals);
            if (seals >= 0) {
                step("back(" + box + ")");
                court();
            }
        }
    }

    private void untold() {
        for (int fact = 0; fact < x.about(9); fact++) {
            say("untell(" + fact + ")", x.untell(fact) ? 1 : 0);
        }
    }

    private void tape() {
        say("chancery()", x.chancery());
        for (int what = 0; what < 14; what++) {
            say("about(" + what + ") behind chancery", x.about(what));
        }
        say("fault(0) behind chancery", x.fault(0));
        say("fault(1) behind chancery", x.fault(1));
        say("seal(0, 0) behind chancery", x.seal(0, 0));
    }
}
