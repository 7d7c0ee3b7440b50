import java.util.function.Consumer;

/** The edges of ==== 3 in "Terms" and of promises 17 to 35: one method for each sentence that names one. */
public final class AskEdgesTest {
    private static final Checks CHECKS = new Checks("AskEdgesTest");
    /** SEALS 0011, 1100 and 1110 (MARK 0 at the right), PRINTS the other way round; see {@link #three}. */
    private static final String THREE = "marks 4;first 0 1;hand a wears 0 fills 0;hand b wears 0 fills mark=1;";

    public static void main(String[] args) {
        nothingIsDone();
        drawIsNone();
        whose();
        whoseRefused();
        made();
        madeRefused();
        apart();
        apartRefused();
        heats();
        luck();
        likely();
        likelyOfLikeOnes();
        fades();
        fadesNever();
        kin();
        kinRefused();
        thumb();
        thumbOfNone();
        thumbRefused();
        share();
        shareOfLikeRests();
        shareRefused();
        forge();
        forgeOfNone();
        nearest();
        nearestRefused();
        common();
        alike();
        tell();
        tellOfLikeOnes();
        tellFull();
        round();
        roundRefused();
        steady();
        steadyOfNone();
        against();
        wax();
        waxByFourCasts();
        waxByHeats();
        waxOfLikeOnes();
        waxOfNone();
        CHECKS.endOf(0, 17, 18, 19, 20, 21, 22, 23, 24, 25, 26, 27, 28, 29, 30, 31, 32, 33, 34, 35);
    }

    private static SealCasts three() {
        SealCasts x = CHECKS.told(THREE);
        x.cast(0, 0, 0);
        x.cast(0, 1, 0);
        return x;
    }

    // ---- Terms

    private static void nothingIsDone() {
        CHECKS.sentence(0, "(Nothing is done; draw is 0.)");
        leaves("whose", x -> x.whose(1, 3, 6));
        leaves("made", x -> x.made(4, 2));
        leaves("apart", x -> x.apart(0, 2, true));
        leaves("heats", x -> x.heats(1, 0, 6));
        leaves("luck", x -> x.luck(1, 0, 3, 6));
        leaves("likely", x -> x.likely(1, 0, 3, 0));
        leaves("fades", x -> x.fades(1, 0, 3));
        leaves("kin", x -> x.kin(1, 2, 0));
        leaves("thumb", x -> x.thumb(2, 1));
        leaves("share", x -> x.share(11, 3, 1));
        leaves("forge", x -> x.forge(1, 0, 3, 6, 1));
        leaves("nearest", x -> x.nearest(6, 1));
        leaves("common", x -> x.common(2));
        leaves("alike", x -> x.alike(6, true));
        leaves("round", x -> x.round(1, 0, 3, 0));
        leaves("steady", x -> x.steady(0, 3, 1));
        leaves("against", x -> x.against(0, 1, 3));
        // What lies there is of these; all else stays.
        CHECKS.leavesAll("tell", () -> laid(SealCasts::tell), SealCasts::tell);
        CHECKS.leavesAll("wax", () -> laid(x -> x.wax(6)), x -> x.wax(6));
        SealCasts x = Busy.object();
        int[] before = new int[13];
        for (int what = 0; what < before.length; what++) {
            before[what] = x.about(what);
        }
        x.tell();
        x.wax(6);
        x.luck(1, 0, 3, 6);
        for (int what = 0; what < before.length; what++) {
            CHECKS.due("about(" + what + ")", x.about(what), before[what]);
        }
    }

    private static void leaves(String call, Consumer<SealCasts> asking) {
        CHECKS.leavesAll(call, Busy::object, asking);
    }

    private static SealCasts laid(Consumer<SealCasts> laying) {
        SealCasts x = Busy.object();
        laying.accept(x);
        return x;
    }

    private static void drawIsNone() {
        CHECKS.sentence(0, "(Nothing is done; draw is 0.)");
        // By a draw of 0 all stay; by any other one all go by a, and all come by b. The SEED is 55.
        SealCasts x = CHECKS.told("marks 3;first 0 1;draw 55;hand a wears draw fills 0;hand b wears 0 fills draw;hand c wears 0 fills 0;");
        for (int hand = 0; hand < 2; hand++) {
            CHECKS.due("heats", x.heats(0, hand, 6), 1023);
            CHECKS.due("fades", x.fades(0, hand, 0), -1);
            CHECKS.due("forge", x.forge(0, hand, 0, 1, 1), 4);
            CHECKS.due("round", x.round(0, hand, 0, 0), 2);
            CHECKS.due("round", x.round(0, hand, 0, 1), 2);
            CHECKS.due("steady", x.steady(hand, 0, 0), 8);
            CHECKS.due("steady", x.steady(hand, 0, 1), 7);
            CHECKS.due("against", x.against(hand, 2, 0), 0);
            CHECKS.due("against", x.against(2, hand, 0), 0);
            // Behind asking by all draws it is 0 again.
            x.luck(0, hand, 0, 0);
            x.likely(0, hand, 0, 0);
            x.would(3, hand, 0, 77);
            CHECKS.due("whose", x.whose(0, 0, 6), 7);
            x.would(3, hand, 0, 1);
        }
        CHECKS.due("wax of none", x.wax(7), -1);
        CHECKS.due("wax", x.wax(6), 1);
        CHECKS.lies(35, x, 0, 0);
        SealCasts y = CHECKS.told("marks 3;first 0 1;draw 55;hand a wears draw=1 fills draw=1;hand b wears 0 fills mark=2;");
        // TURNED 6, and 3 of that by b with MARK 2: 7.
        CHECKS.due("wax by two", y.wax(7), 2);
        CHECKS.lies(35, y, 0, 0, 10);
    }

    // ---- Promises

    private static void whose() {
        CHECKS.sentence(17, "WHOSE, as bits");
        SealCasts x = CHECKS.told("marks 2;first 0;hand a wears 1 fills 0;hand b wears 0 fills 0;hand c wears heat=9 fills 0;"
            + "hand d wears 0 fills heat=9;");
        CHECKS.due("at HEAT 0 nothing", x.whose(0, 0, 0), 1);
        CHECKS.due("at HEAT 0", x.whose(0, 0, 2), 14);
        CHECKS.due("at HEAT 9 nothing", x.whose(0, 9, 0), 5);
        CHECKS.due("at HEAT 9", x.whose(0, 9, 2), 2);
        CHECKS.due("at HEAT 9 all", x.whose(0, 9, 3), 8);
        CHECKS.due("by none", x.whose(0, 0, 1), 0);
        CHECKS.due("without HANDS", new SealCasts().whose(0, 0, 0), 0);
        CHECKS.due("of a later SEAL", three().whose(2, 0, 7), 3);
    }

    private static void whoseRefused() {
        CHECKS.sentence(17, "NONE if one can't be.");
        SealCasts x = three();
        CHECKS.bounds("seal", seal -> x.whose(seal, 0, 0), 0, 2, -1);
        CHECKS.bounds("heat", heat -> x.whose(0, heat, 0), 0, 9, -1);
        CHECKS.bounds("row", row -> x.whose(0, 0, row), 0, 15, -1);
        CHECKS.bounds("row of 8 without HANDS", row -> new SealCasts().whose(0, 0, row), 0, 255, -1);
    }

    private static void made() {
        CHECKS.sentence(0, "no MARK of it is not in their PRINTS, and at most m of theirs are not in it");
        // PRINTS 1100, 0011, 0111.
        SealCasts x = three();
        CHECKS.due("just so", x.made(12, 0), 1);
        CHECKS.due("just so", x.made(7, 0), 4);
        CHECKS.due("one more in it", x.made(15, 12), 0);
        CHECKS.due("another one in it", x.made(13, 12), 0);
        CHECKS.due("one less", x.made(8, 0), 0);
        CHECKS.due("one less", x.made(8, 1), 1);
        CHECKS.due("one and two less", x.made(1, 1), 2);
        CHECKS.due("one and two less", x.made(1, 2), 6);
        CHECKS.due("none, 1", x.made(0, 1), 0);
        CHECKS.due("none, 2", x.made(0, 2), 3);
        CHECKS.due("none, 3", x.made(0, 3), 7);
        CHECKS.due("none, 12", x.made(0, 12), 7);
        SealCasts wide = CHECKS.told("marks 12;first 0 1 2 3 4 5 6 7 8 9 10 11;");
        CHECKS.due("all but 11", wide.made(0, 11), 0);
        CHECKS.due("all 12", wide.made(0, 12), 1);
        // By what it shows now, not by PRINTS that were made.
        SealCasts y = CHECKS.told("marks 4;first 0 1;");
        y.print(0);
        y.crack(0, 0);
        CHECKS.due("what it showed", y.made(12, 0), 0);
        CHECKS.due("what it shows", y.made(4, 0), 1);
        CHECKS.due("all 24", Busy.withAllSeals().made(0, 12), (1 << 24) - 1);
    }

    private static void madeRefused() {
        CHECKS.sentence(18, "MADE (m 0 .. 12), as bits; NONE if one can't be.");
        SealCasts x = three();
        CHECKS.bounds("m", m -> x.made(3, m), 0, 12, -1);
        CHECKS.bounds("row", row -> x.made(row, 0), 0, 15, -1);
        CHECKS.bounds("m of WIDTH 1", m -> CHECKS.told("marks 1;").made(1, m), 0, 12, -1);
    }

    private static void apart() {
        CHECKS.sentence(0, "MARKS in which a SEAL and another one (TURNED, or not) are not alike");
        SealCasts x = three();
        CHECKS.due("in all", x.apart(0, 1, false), 4);
        CHECKS.due("in none", x.apart(0, 1, true), 0);
        CHECKS.due("with itself", x.apart(2, 2, false), 0);
        CHECKS.due("with itself, TURNED", x.apart(2, 2, true), 2);
        CHECKS.due("the first with the last", x.apart(0, 2, false), 3);
        CHECKS.due("the first with the last, TURNED", x.apart(0, 2, true), 1);
        SealCasts wide = CHECKS.told("marks 12;hand a wears 0 fills not has;");
        wide.cast(0, 0, 0);
        CHECKS.due("in 12", wide.apart(0, 1, false), 12);
        CHECKS.due("in 12, TURNED", wide.apart(1, 0, true), 12);
    }

    private static void apartRefused() {
        CHECKS.sentence(19, "APART; NONE if one can't be.");
        SealCasts x = three();
        for (boolean turned : new boolean[] {false, true}) {
            CHECKS.bounds("seal", seal -> x.apart(seal, 0, turned), 0, 2, -1);
            CHECKS.bounds("other", other -> x.apart(0, other, turned), 0, 2, -1);
        }
    }

    private static void heats() {
        CHECKS.sentence(0, "HEATS: at which (0 .. 9) a CAST of a SEAL by a HAND would be just a ROW.");
        SealCasts x = CHECKS.told("marks 2;first 0;hand a wears heat=0 or heat=9 fills heat=5;");
        CHECKS.due("0 and 9", x.heats(0, 0, 0), 513);
        CHECKS.due("5", x.heats(0, 0, 3), 32);
        CHECKS.due("all others", x.heats(0, 0, 2), 1023 - 513 - 32);
        CHECKS.due("none", x.heats(0, 0, 1), 0);
        CHECKS.sentence(20, "HEATS, as bits; NONE if one can't be.");
        CHECKS.bounds("seal", seal -> three().heats(seal, 0, 0), 0, 2, -1);
        CHECKS.bounds("hand", hand -> three().heats(0, hand, 0), 0, 1, -1);
        CHECKS.bounds("row", row -> three().heats(0, 0, row), 0, 15, -1);
        CHECKS.due("without HANDS", new SealCasts().heats(0, 0, 0), -1);
    }

    private static void luck() {
        CHECKS.sentence(0, "LUCK: draws (0 .. 99) by which it would be.");
        SealCasts x = CHECKS.told("marks 2;first 0;hand a wears draw=0 fills draw=99;hand b wears 0 fills 0;hand c wears draw>99 fills 0;");
        CHECKS.due("draw 0", x.luck(0, 0, 0, 0), 1);
        CHECKS.due("draw 99", x.luck(0, 0, 0, 3), 1);
        CHECKS.due("all others", x.luck(0, 0, 0, 2), 98);
        CHECKS.due("none", x.luck(0, 0, 0, 1), 0);
        CHECKS.due("all", x.luck(0, 1, 9, 2), 100);
        CHECKS.due("none above 99", x.luck(0, 2, 0, 2), 100);
        CHECKS.sentence(21, "LUCK: how many; NONE if one can't be.");
        CHECKS.bounds("seal", seal -> three().luck(seal, 0, 0, 0), 0, 2, -1);
        CHECKS.bounds("hand", hand -> three().luck(0, hand, 0, 0), 0, 1, -1);
        CHECKS.bounds("heat", heat -> three().luck(0, 0, heat, 0), 0, 9, -1);
        CHECKS.bounds("row", row -> three().luck(0, 0, 0, row), 0, 15, -1);
    }

    private static void likely() {
        CHECKS.sentence(22, "LIKELY what 0: the ROW, 1: how many draws; NONE if one can't be.");
        SealCasts x = CHECKS.told("marks 2;first 0;hand a wears draw<51 fills 0;hand b wears draw<50 fills 0;hand c wears draw<49 fills 0;"
            + "hand d wears 0 fills 0;");
        int[][] want = {{0, 51}, {0, 50}, {2, 51}, {2, 100}};
        for (int hand = 0; hand < 4; hand++) {
            CHECKS.due("the ROW by HAND " + hand, x.likely(0, hand, 0, 0), want[hand][0]);
            CHECKS.due("draws by HAND " + hand, x.likely(0, hand, 0, 1), want[hand][1]);
        }
        CHECKS.bounds("seal", seal -> three().likely(seal, 0, 0, 0), 0, 2, -1);
        CHECKS.bounds("hand", hand -> three().likely(0, hand, 0, 0), 0, 1, -1);
        CHECKS.bounds("heat", heat -> three().likely(0, 0, heat, 0), 0, 9, -1);
        CHECKS.bounds("what", what -> three().likely(0, 0, 0, what), 0, 1, -1);
    }

    private static void likelyOfLikeOnes() {
        CHECKS.sentence(0, "LIKELY: the ROW that most draws give; of like ones the least.");
        SealCasts x = CHECKS.told("marks 3;first 0 1 2;hand a wears draw%4=mark or draw%4=3 and mark=0 fills 0;");
        // The draws of rest 0 and 3 wear MARK 0, those of rest 1 MARK 1, those of rest 2 MARK 2.
        CHECKS.due("of 50, 25, 25", x.likely(0, 0, 0, 0), 6);
        CHECKS.due("of 50, 25, 25", x.likely(0, 0, 0, 1), 50);
        SealCasts y = CHECKS.told("marks 3;first 0 1 2;hand a wears draw%4=mark fills 0;hand b wears draw%3=mark fills 0;");
        // 6, 5, 3 and 7, 25 draws each.
        CHECKS.due("of four like ones", y.likely(0, 0, 0, 0), 3);
        CHECKS.due("of four like ones", y.likely(0, 0, 0, 1), 25);
        // 6 has 34 draws, 5 and 3 have 33.
        CHECKS.due("one more goes ahead", y.likely(0, 1, 0, 0), 6);
        CHECKS.due("one more goes ahead", y.likely(0, 1, 0, 1), 34);
        SealCasts least = CHECKS.told("marks 2;first 1;hand a wears draw<50 fills 0;hand b wears draw<40 fills 0;");
        CHECKS.due("0 ahead of 1", least.likely(0, 0, 0, 0), 0);
        CHECKS.due("1 with more", least.likely(0, 1, 0, 0), 1);
        CHECKS.due("1 with more", least.likely(0, 1, 0, 1), 60);
        SealCasts wide = CHECKS.told("marks 12;first 0 1 2 3 4 5 6 7 8 9 10 11;hand a wears 0 fills 0;hand b wears 1 fills 0;");
        CHECKS.due("the greatest ROW", wide.likely(0, 0, 0, 0), 4095);
        CHECKS.due("the least ROW", wide.likely(0, 1, 0, 0), 0);
    }

    private static void fades() {
        CHECKS.sentence(23, "FADES (0 if it has no MARKS)");
        SealCasts none = CHECKS.told("marks 3;hand a wears 0 fills 1;");
        CHECKS.due("none, though they would come", none.fades(0, 0, 0), 0);
        SealCasts one = CHECKS.told("marks 3;first 1;hand a wears 1 fills 0;");
        CHECKS.due("behind one", one.fades(0, 0, 0), 1);
        one.crack(0, 1);
        CHECKS.due("behind the CRACK", one.fades(0, 0, 0), 0);
        for (int width = 1; width <= 12; width++) {
            StringBuilder text = new StringBuilder("marks " + width + ";hand a wears not left fills 0;first");
            for (int mark = 0; mark < width; mark++) {
                text.append(' ').append(mark);
            }
            CHECKS.due("one by one", CHECKS.told(text + ";").fades(0, 0, 0), width);
        }
    }

    private static void fadesNever() {
        CHECKS.sentence(23, "NONE if it never does, or one can't be.");
        SealCasts x = CHECKS.told("marks 3;first 1;hand a wears heat<9 fills heat=5;hand b wears 0 fills 0;");
        CHECKS.due("at HEAT 0", x.fades(0, 0, 0), 1);
        CHECKS.due("at HEAT 9", x.fades(0, 0, 9), -1);
        CHECKS.due("never", x.fades(0, 1, 0), -1);
        // 2 goes and 0 and 2 come, which go as 1 comes: never nothing.
        CHECKS.due("to and fro", x.fades(0, 0, 5), -1);
        SealCasts faded = CHECKS.told("marks 4;first 0 1;hand a wears 1 fills 0;hand b wears 1 fills 0;");
        faded.cast(0, 0, 0);
        faded.cast(0, 1, 0);
        faded.cast(2, 1, 0);
        CHECKS.bounds("seal", seal -> faded.fades(seal, 0, 0), 0, 3, -1);
        CHECKS.bounds("hand", hand -> faded.fades(0, hand, 0), 0, 1, -1);
        CHECKS.bounds("heat", heat -> faded.fades(0, 0, heat), 0, 9, -1);
    }

    /** 1 and 5 of 0, 2 and 3 of 1, 4 of 3. */
    private static SealCasts family() {
        SealCasts x = CHECKS.told("marks 3;first 0;hand a wears 0 fills mark=1;hand b wears 0 fills mark=0;hand c wears 0 fills 0;");
        x.cast(0, 0, 0);
        x.cast(1, 1, 0);
        x.cast(1, 2, 0);
        x.cast(3, 2, 0);
        x.cast(0, 2, 0);
        return x;
    }

    private static void kin() {
        CHECKS.sentence(0, "KIN of two SEALS: the one of the greatest number of which both come, or which they are.");
        SealCasts x = family();
        // By rows and columns: the SEAL, and how many CASTS lie between.
        int[][] kin = {{0, 0, 0, 0, 0, 0}, {0, 1, 1, 1, 1, 0}, {0, 1, 2, 1, 1, 0}, {0, 1, 1, 3, 3, 0}, {0, 1, 1, 3, 4, 0}, {0, 0, 0, 0, 0, 5}};
        int[][] casts = {{0, 1, 2, 2, 3, 1}, {1, 0, 1, 1, 2, 2}, {2, 1, 0, 2, 3, 3}, {2, 1, 2, 0, 1, 3}, {3, 2, 3, 1, 0, 4}, {1, 2, 3, 3, 4, 0}};
        for (int one = 0; one < 6; one++) {
            for (int two = 0; two < 6; two++) {
                CHECKS.due("kin(" + one + ", " + two + ", 0)", x.kin(one, two, 0), kin[one][two]);
                CHECKS.due("kin(" + one + ", " + two + ", 1)", x.kin(one, two, 1), casts[one][two]);
            }
        }
        SealCasts line = CHECKS.told("hand a wears 0 fills 0;");
        for (int seal = 0; seal < 23; seal++) {
            line.cast(seal, 0, 0);
        }
        CHECKS.due("the first and the last of a line", line.kin(0, 23, 0), 0);
        CHECKS.due("the first and the last of a line", line.kin(23, 0, 1), 23);
        CHECKS.due("the last two of a line", line.kin(22, 23, 0), 22);
        SealCasts two = CHECKS.told("hand a wears 0 fills 0;");
        two.cast(0, 0, 0);
        for (int seal = 0; seal < 22; seal++) {
            two.cast(seal, 0, 0);
        }
        CHECKS.due("two lines", two.kin(22, 23, 1), 23);
        CHECKS.due("two lines", two.kin(22, 23, 0), 0);
    }

    private static void kinRefused() {
        CHECKS.sentence(24, "KIN what 0: the SEAL, 1: how many CASTS lie between the two; NONE if one can't be.");
        SealCasts x = family();
        for (int what = 0; what < 2; what++) {
            int each = what;
            CHECKS.bounds("seal", seal -> x.kin(seal, 4, each), 0, 5, -1);
            CHECKS.bounds("other", other -> x.kin(4, other, each), 0, 5, -1);
        }
        CHECKS.bounds("what", what -> x.kin(2, 4, what), 0, 1, -1);
    }

    private static void thumb() {
        CHECKS.sentence(25, "THUMB: the HAND; NONE: SEAL 0 has it");
        // ROWS 1, 6, 3, 3, 6, 4.
        SealCasts x = family();
        int[][] want = {{-1, -2, -2}, {-2, 0, -1}, {-1, 0, -2}, {-1, 0, -2}, {-2, 0, -1}, {-2, -2, -1}};
        for (int seal = 0; seal < 6; seal++) {
            for (int mark = 0; mark < 3; mark++) {
                CHECKS.due("thumb(" + seal + ", " + mark + ")", x.thumb(seal, mark), want[seal][mark]);
            }
        }
        SealCasts line = CHECKS.told("marks 2;first 0;hand a wears 0 fills 0;hand b wears 0 fills mark;");
        for (int seal = 0; seal < 23; seal++) {
            line.cast(seal, seal == 1 ? 1 : 0, 0);
        }
        // SEAL 2 is TURNED 1 and has MARK 1 by hand b; SEAL 23 has MARK 1 of the first, MARK 0 by b.
        CHECKS.due("the last of a line", line.thumb(23, 1), -1);
        CHECKS.due("the last of a line", line.thumb(23, 0), 1);
    }

    private static void thumbOfNone() {
        CHECKS.sentence(0, "back from SEAL to SEAL, TURNED each time, as long as the one it is of has it (as ROWS are now)");
        SealCasts x = family();
        x.crack(0, 0);
        CHECKS.due("SEAL 0 has it no more", x.thumb(1, 2), 0);
        CHECKS.due("SEAL 0 has it no more", x.thumb(5, 2), 2);
        x.undo();
        CHECKS.due("SEAL 0 has it again", x.thumb(1, 2), -1);
        x.crack(3, 1);
        CHECKS.due("as SEAL 3 is now", x.thumb(4, 1), 2);
        CHECKS.due("SEAL 3 itself", x.thumb(3, 1), -2);
        CHECKS.due("not by SEAL 3", x.thumb(2, 1), 0);
    }

    private static void thumbRefused() {
        CHECKS.sentence(25, "-2 if one can't be, or the SEAL has it not.");
        SealCasts x = CHECKS.told("marks 3;first 0 1 2;hand a wears 0 fills 0;");
        x.cast(0, 0, 0);
        CHECKS.bounds("seal", seal -> x.thumb(seal, 0), 0, 1, -2);
        CHECKS.bounds("mark", mark -> x.thumb(0, mark), 0, 2, -2);
        CHECKS.due("mark 32", x.thumb(0, 32), -2);
        x.crack(1, 0);
        CHECKS.due("it has it not", x.thumb(1, 0), -2);
        SealCasts wide = CHECKS.told("marks 12;first 0 1 2 3 4 5 6 7 8 9 10 11;");
        CHECKS.bounds("mark of 12", mark -> wide.thumb(0, mark), 0, 11, -2);
    }

    private static void share() {
        CHECKS.sentence(0, "MARK m is of PROVINCE m * n / WIDTH (cut)");
        for (int width = 1; width <= 12; width++) {
            SealCasts x = CHECKS.told("marks " + width + ";");
            for (int n = 1; n <= 4; n++) {
                for (int mark = 0; mark < width; mark++) {
                    for (int province = 0; province < n; province++) {
                        int want = mark * n / width == province ? 100 : 0;
                        CHECKS.due("MARK " + mark + " of " + width + ", " + n, x.share(1 << mark, n, province), want);
                    }
                }
            }
        }
        CHECKS.sentence(0, "(none of no MARKS)");
        for (int n = 1; n <= 4; n++) {
            for (int province = 0; province < n; province++) {
                CHECKS.due("no MARKS", CHECKS.told("marks 5;").share(0, n, province), 0);
            }
        }
    }

    private static void shareOfLikeRests() {
        CHECKS.sentence(0, "those that are left go, one each, to those with the greatest rests; of like ones the first");
        SealCasts x = CHECKS.told("marks 12;");
        int[][] wants = {
            // Three of three: 33 each and one is left; the first has it.
            {0b000100010001, 3, 34, 33, 33}, {0b000000010001, 3, 50, 50, 0}, {0b000100010000, 3, 0, 50, 50},
            // 1, 2 of 3: 33 1/3 and 66 2/3: the greater rest has it, be it the last or the first.
            {0b110000000001, 2, 33, 67}, {0b100000000011, 2, 67, 33},
            // 1, 1, 1, 3 of 6: 16 4/6 three times, 50: two are left.
            {0b111001001001, 4, 17, 17, 16, 50}, {0b001001001111, 4, 50, 17, 17, 16},
            // 3, 2, 1, 1 of 7: 42 6/7, 28 4/7, 14 2/7 twice: two are left.
            {0b001001011111, 4, 43, 29, 14, 14}, {0b111011001001, 4, 14, 14, 29, 43},
            // 2, 3, 3, 3 of 11: 18 2/11, 27 3/11 three times: one is left.
            {0b111111111011, 4, 18, 28, 27, 27}, {0b111111111111, 4, 25, 25, 25, 25}};
        for (int[] want : wants) {
            int sum = 0;
            for (int province = 0; province < want[1]; province++) {
                int share = x.share(want[0], want[1], province);
                CHECKS.due("share(" + want[0] + ", " + want[1] + ", " + province + ")", share, want[2 + province]);
                sum += share;
            }
            CHECKS.due("in all", sum, 100);
        }
    }

    private static void shareRefused() {
        CHECKS.sentence(0, "SHARES of a ROW among n PROVINCES (1 .. 4)");
        SealCasts x = CHECKS.told("marks 5;");
        CHECKS.bounds("n", n -> x.share(31, n, 0), 1, 4, -1);
        CHECKS.sentence(26, "SHARES: hundredths of a PROVINCE; NONE if one can't be.");
        for (int n = 1; n <= 4; n++) {
            int each = n;
            CHECKS.bounds("province", province -> x.share(31, each, province), 0, n - 1, -1);
            CHECKS.bounds("province of no MARKS", province -> x.share(0, each, province), 0, n - 1, -1);
        }
        CHECKS.bounds("row", row -> x.share(row, 2, 1), 0, 31, -1);
    }

    private static void forge() {
        CHECKS.sentence(0, "the one in which fewest MARKS are not as in the SEAL; of like ones the least");
        SealCasts x = CHECKS.told("marks 3;first 0 2;hand a wears many<3 fills many>1;hand b wears 1 fills heat=9;");
        // By a all with 2 MARKS give the third alone, all with 3 stay, all with fewer give nothing.
        CHECKS.due("the SEAL itself", x.forge(0, 0, 0, 2, 0), 0);
        CHECKS.due("the SEAL itself", x.forge(0, 0, 0, 2, 1), 5);
        CHECKS.due("the only one", x.forge(0, 0, 0, 4, 1), 6);
        CHECKS.due("how many MARKS", x.forge(0, 0, 0, 4, 0), 2);
        CHECKS.due("of like ones the least", x.forge(0, 0, 0, 0, 1), 1);
        CHECKS.due("how many MARKS", x.forge(0, 0, 0, 0, 0), 1);
        CHECKS.due("the last of all", x.forge(0, 0, 0, 7, 1), 7);
        CHECKS.due("any", x.forge(0, 1, 0, 0, 1), 5);
        x.crack(0, 0);
        x.crack(0, 2);
        CHECKS.due("the first of all", x.forge(0, 1, 0, 0, 1), 0);
        CHECKS.due("as the SEAL is now", x.forge(0, 0, 0, 2, 0), 2);
        SealCasts wide = CHECKS.told("marks 12;hand a wears 0 fills 0;");
        CHECKS.due("all 12 MARKS", wide.forge(0, 0, 0, 4095, 0), 12);
        CHECKS.due("all 12 MARKS", wide.forge(0, 0, 0, 4095, 1), 4095);
    }

    private static void forgeOfNone() {
        CHECKS.sentence(27, "NONE if there is none, or one can't be.");
        SealCasts x = CHECKS.told("marks 3;first 0 2;hand a wears 1 fills heat=9;");
        CHECKS.due("none", x.forge(0, 0, 0, 1, 0), -1);
        CHECKS.due("none", x.forge(0, 0, 0, 1, 1), -1);
        // At HEAT 9 what is not there comes, what is goes.
        CHECKS.due("one at HEAT 9", x.forge(0, 0, 9, 1, 1), 3);
        SealCasts y = three();
        CHECKS.bounds("seal", seal -> y.forge(seal, 0, 0, 0, 1), 0, 2, -1);
        CHECKS.bounds("hand", hand -> y.forge(0, hand, 0, 15, 1), 0, 1, -1);
        CHECKS.bounds("heat", heat -> y.forge(0, 0, heat, 0, 1), 0, 9, -1);
        CHECKS.bounds("row", row -> y.forge(0, 0, 0, row, 1), 0, 15, -1);
        CHECKS.bounds("what", what -> y.forge(0, 0, 0, 0, what), 0, 1, -1);
    }

    private static void nearest() {
        CHECKS.sentence(0, "NEAREST to a ROW: the SEAL whose PRINT, or whose ROW (that behind all PRINTS), is not like it in fewest MARKS; of like ones the first.");
        SealCasts x = three();
        int[][] wants = {
            // ROW, MARKS, SEAL, by its ROW: PRINTS 12, 3, 7; ROWS 3, 12, 14.
            {12, 0, 0, 0}, {3, 0, 1, 0}, {7, 0, 2, 0}, {14, 0, 2, 1}, {0, 2, 0, 0}, {15, 1, 2, 0}, {10, 1, 2, 1},
            {6, 1, 2, 0}, {8, 1, 0, 0}, {4, 1, 0, 0}, {2, 1, 1, 0}, {11, 1, 1, 0}, {13, 1, 0, 0}, {9, 2, 0, 0}};
        for (int[] want : wants) {
            for (int what = 0; what < 3; what++) {
                CHECKS.due("nearest(" + want[0] + ", " + what + ")", x.nearest(want[0], what), want[1 + what]);
            }
        }
        SealCasts full = Busy.withAllSeals();
        for (int row = 0; row < 16; row += 5) {
            CHECKS.due("of 24", full.nearest(row, 0), nearestOf(full, row));
        }
        SealCasts wide = CHECKS.told("marks 12;");
        CHECKS.due("12 MARKS", wide.nearest(4095, 0), 12);
        CHECKS.due("of one SEAL", wide.nearest(4095, 1), 0);
        CHECKS.due("by its PRINT", wide.nearest(4095, 2), 0);
    }

    private static int nearestOf(SealCasts x, int row) {
        int fewest = 99;
        for (int seal = 0; seal < x.about(2); seal++) {
            fewest = Math.min(fewest, Integer.bitCount(row ^ x.seal(seal, 0)));
            fewest = Math.min(fewest, Integer.bitCount(row ^ x.turned(x.seal(seal, 0))));
        }
        return fewest;
    }

    private static void nearestRefused() {
        CHECKS.sentence(28, "NEAREST what 0: how many MARKS, 1: the SEAL, 2: 1 if it is by its ROW, 0 by its PRINT; NONE if one can't be.");
        SealCasts x = three();
        CHECKS.bounds("row", row -> x.nearest(row, 1), 0, 15, -1);
        CHECKS.bounds("what", what -> x.nearest(10, what), 0, 2, -1);
    }

    private static void common() {
        CHECKS.sentence(29, "MARKS that all SEALS have (what 0), that some have (1), that are in all PRINTS that were made (2; all of WIDTH without any), as bits");
        for (int width = 1; width <= 12; width++) {
            SealCasts x = CHECKS.told("marks " + width + ";");
            CHECKS.due("without PRINTS", x.common(2), (1 << width) - 1);
            CHECKS.due("of a SEAL without MARKS", x.common(0), 0);
            CHECKS.due("of a SEAL without MARKS", x.common(1), 0);
            x.print(0);
            CHECKS.due("of an empty PRINT", x.common(2), 0);
        }
        SealCasts y = CHECKS.told("marks 3;first 0 1;hand a wears 0 fills mark=0;");
        CHECKS.due("of one SEAL", y.common(0), 3);
        CHECKS.due("of one SEAL", y.common(1), 3);
        y.cast(0, 0, 0);
        // 3 and 7.
        CHECKS.due("of two SEALS", y.common(0), 3);
        CHECKS.due("of two SEALS", y.common(1), 7);
        y.print(0);
        CHECKS.due("of one PRINT", y.common(2), 6);
        y.crack(0, 1);
        y.print(0);
        CHECKS.due("of two PRINTS", y.common(2), 4);
        CHECKS.due("behind a CRACK", y.common(0), 1);
        y.crack(1, 1);
        CHECKS.due("behind two CRACKS", y.common(1), 5);
        CHECKS.due("PRINTS stay as they were made", y.common(2), 4);
        // MARKS that one has alone, be it the first, the last or another one.
        SealCasts z = CHECKS.told("marks 3;first 0 1;hand a wears 1 fills heat=mark;hand b wears 0 fills 0;");
        z.cast(0, 0, 0);
        z.cast(0, 1, 0);
        z.cast(0, 0, 2);
        // TURNED 6 and worn: 1; TURNED: 6; TURNED 6 and worn, MARK 2 was there: 0.
        CHECKS.due("some", z.common(1), 7);
        CHECKS.due("all", z.common(0), 0);
        z.print(2);
        z.print(0);
        // 3 and 6, and 3 once more.
        CHECKS.due("of both PRINTS", z.common(2), 2);
        z.print(2);
        CHECKS.due("of three PRINTS", z.common(2), 2);
        CHECKS.sentence(29, "NONE for another what.");
        CHECKS.bounds("what", y::common, 0, 2, -1);
    }

    private static void alike() {
        CHECKS.sentence(30, "SEALS of just a ROW (TURNED, if that is told), as bits; NONE if one can't be.");
        SealCasts x = three();
        CHECKS.due("just", x.alike(3, false), 1);
        CHECKS.due("just, TURNED", x.alike(3, true), 2);
        CHECKS.due("more", x.alike(15, false), 0);
        CHECKS.due("fewer", x.alike(1, false), 0);
        CHECKS.due("the last", x.alike(14, false), 4);
        CHECKS.due("the last, TURNED", x.alike(7, true), 4);
        CHECKS.bounds("row", row -> x.alike(row, false), 0, 15, -1);
        CHECKS.bounds("row, TURNED", row -> x.alike(row, true), 0, 15, -1);
        SealCasts full = CHECKS.told("first 0;hand a wears 0 fills 0;");
        for (int seal = 1; seal < 24; seal++) {
            full.cast(0, 0, 0);
        }
        CHECKS.due("all but one of 24", full.alike(128, false), (1 << 24) - 2);
        CHECKS.due("the first of 24", full.alike(128, true), 1);
    }

    private static void tell() {
        CHECKS.sentence(31, "TELL: how many. The MARKS lie there then, the least first.");
        SealCasts x = CHECKS.told("marks 3;first 0 2;hand a wears 0 fills 0;hand b wears mark=2 fills 0;");
        CHECKS.due("of one SEAL", x.tell(), 0);
        CHECKS.lies(31, x);
        x.cast(0, 0, 0);
        CHECKS.due("of two like ones", x.tell(), 0);
        CHECKS.lies(31, x);
        x.cast(0, 1, 0);
        // 5, 5, 1.
        CHECKS.due("of two unlike ones", x.tell(), 1);
        CHECKS.lies(31, x, 2);
        x.crack(0, 0);
        // 4, 5, 1.
        CHECKS.due("of three", x.tell(), 2);
        CHECKS.lies(31, x, 0, 2);
        CHECKS.due("as often as it is asked", x.tell(), 2);
        CHECKS.lies(31, x, 0, 2);
        x.undo();
        x.undo();
        CHECKS.due("of two like ones again", x.tell(), 0);
        CHECKS.lies(31, x);
    }

    private static void tellOfLikeOnes() {
        CHECKS.sentence(0, "TELL: the fewest MARKS so that SEALS of unlike ROWS are unlike in some of these; of like ones the least as bits.");
        // Two SEALS that are unlike in MARKS 1, 2 and 3.
        SealCasts x = CHECKS.told("marks 4;hand a wears 0 fills mark;");
        x.cast(0, 0, 0);
        CHECKS.due("of three like ones", x.tell(), 1);
        CHECKS.lies(31, x, 1);
        // 0, 1, 2, 4 by HEATS.
        SealCasts y = CHECKS.told("marks 3;hand a wears 0 fills heat=mark+1;");
        y.cast(0, 0, 1);
        y.cast(0, 0, 2);
        y.cast(0, 0, 3);
        CHECKS.due("all three are wanted", y.tell(), 3);
        CHECKS.lies(31, y, 0, 1, 2);
        // 1, 2, 4 alone: 0 and 1.
        SealCasts z = CHECKS.told("marks 3;first 0;hand a wears 1 fills heat=mark;");
        z.cast(0, 0, 1);
        z.cast(0, 0, 2);
        CHECKS.due("two of three", z.tell(), 2);
        CHECKS.lies(31, z, 0, 1);
        // 12 and 3.
        SealCasts w = CHECKS.told("marks 4;first 2 3;hand a wears 0 fills 0;");
        w.cast(0, 0, 0);
        CHECKS.due("any of four", w.tell(), 1);
        CHECKS.lies(31, w, 0);
    }

    private static void tellFull() {
        CHECKS.sentence(31, "The MARKS lie there then, the least first.");
        // SEALS with no MARK and with each alone: every MARK is wanted.
        for (int width = 1; width <= 12; width++) {
            SealCasts x = CHECKS.told("marks " + width + ";hand a wears 1 fills mark=year;");
            for (int year = 0; year < width; year++) {
                x.cast(0, 0, 0);
                x.year();
            }
            CHECKS.due("all of " + width, x.tell(), width);
            int[] all = new int[width];
            for (int mark = 0; mark < width; mark++) {
                all[mark] = mark;
            }
            CHECKS.lies(31, x, all);
        }
        SealCasts full = Busy.withAllSeals();
        int best = fewestOf(full);
        CHECKS.due("of 24 SEALS with 4 MARKS", full.tell(), Integer.bitCount(best));
        int marks = 0;
        for (int i = 0; i < full.about(13); i++) {
            marks |= 1 << full.lies(i);
        }
        CHECKS.due("the MARKS as bits", marks, best);
        // The last of 24 alone is unlike the others.
        SealCasts last = CHECKS.told("marks 12;hand a wears 0 fills 0;hand b wears 0 fills mark=11;");
        for (int seal = 1; seal < 24; seal++) {
            last.cast(0, seal == 23 ? 1 : 0, 0);
        }
        CHECKS.due("by the last MARK", last.tell(), 1);
        CHECKS.lies(31, last, 11);
    }

    /** The fewest MARKS that tell all apart, of like ones the least, found by trying all. */
    private static int fewestOf(SealCasts x) {
        int[] rows = new int[x.about(2)];
        for (int seal = 0; seal < rows.length; seal++) {
            rows[seal] = x.seal(seal, 0);
        }
        int best = -1;
        for (int marks = 0; marks < 1 << 4; marks++) {
            boolean tells = true;
            for (int one : rows) {
                for (int two : rows) {
                    tells &= one == two || (one & marks) != (two & marks);
                }
            }
            if (tells && (best < 0 || Integer.bitCount(marks) < Integer.bitCount(best))) {
                best = marks;
            }
        }
        return best;
    }

    private static void round() {
        CHECKS.sentence(0, "the first number of them (1 .. 4096) behind which the ROW is as it was behind fewer (0 or more); how many fewer");
        SealCasts x = CHECKS.told("marks 3;first 1;hand a wears 0 fills 0;hand b wears 1 fills 0;hand c wears 0 fills 1;"
            + "hand d wears heat=9 fills heat=9;");
        CHECKS.due("the least number", x.round(0, 0, 0, 0), 1);
        CHECKS.due("one fewer", x.round(0, 0, 0, 1), 1);
        CHECKS.due("nothing and nothing", x.round(0, 1, 0, 0), 2);
        CHECKS.due("one fewer", x.round(0, 1, 0, 1), 1);
        CHECKS.due("all and all", x.round(0, 2, 0, 0), 2);
        // 2, 5, 2 at HEAT 9.
        CHECKS.due("two, as behind none", x.round(0, 3, 9, 0), 2);
        CHECKS.due("two fewer", x.round(0, 3, 9, 1), 2);
        x.crack(0, 1);
        CHECKS.due("from nothing", x.round(0, 1, 0, 0), 1);
        SealCasts y = CHECKS.told("marks 4;first 0;hand a wears mark=0 or left fills left;");
        CHECKS.due("eight", y.round(0, 0, 0, 0), 8);
        CHECKS.due("seven fewer", y.round(0, 0, 0, 1), 7);
        // At every WIDTH, all worn or the last MARK alone worn when it is TURNED to be the first.
        for (int width = 1; width <= 12; width++) {
            SealCasts wide = CHECKS.told("marks " + width + ";first " + (width - 1) + ";hand a wears 0 fills 0;hand b wears mark=0 fills 0;");
            CHECKS.due("to and fro at " + width, wide.round(0, 0, 0, 0), width == 1 ? 1 : 2);
            CHECKS.due("to and fro at " + width, wide.round(0, 0, 0, 1), width == 1 ? 1 : 2);
            CHECKS.due("gone at " + width, wide.round(0, 1, 0, 0), 2);
            CHECKS.due("gone at " + width, wide.round(0, 1, 0, 1), 1);
            CHECKS.due("gone at " + width, wide.fades(0, 1, 0), 1);
        }
        // A narrow CHANCERY behind a wide one, of which every ROW was asked for.
        SealCasts narrow = CHECKS.told("marks 12;first 0 5;hand a wears 0 fills 0;");
        narrow.steady(0, 0, 0);
        Checks.feedText(narrow, "marks 2;first 0;hand a wears 0 fills 0;");
        narrow.chancery();
        CHECKS.due("behind a wide one", narrow.round(0, 0, 0, 0), 2);
        // The same in other words: step by step, by what each CAST would be.
        for (int seal = 0; seal < 8; seal++) {
            SealCasts z = CHECKS.told("marks 9;first " + seal + ";hand a wears (left+right+mark)%2 fills (left+right*2+many)%3;");
            int[] want = roundOf(z);
            CHECKS.due("the first number", z.round(0, 0, 0, 0), want[0]);
            CHECKS.due("how many fewer", z.round(0, 0, 0, 1), want[1]);
        }
    }

    private static int[] roundOf(SealCasts x) {
        int[] met = new int[4097];
        met[0] = x.seal(0, 0);
        for (int casts = 1; casts <= 4096; casts++) {
            met[casts] = x.would(met[casts - 1], 0, 0, 0);
            for (int fewer = 0; fewer < casts; fewer++) {
                if (met[fewer] == met[casts]) {
                    return new int[] {casts, casts - fewer};
                }
            }
        }
        return new int[] {-1, -1};
    }

    private static void roundRefused() {
        CHECKS.sentence(32, "ROUND what 0: the first number, 1: how many fewer; NONE if one can't be.");
        SealCasts x = three();
        CHECKS.bounds("seal", seal -> x.round(seal, 0, 0, 0), 0, 2, -1);
        CHECKS.bounds("hand", hand -> x.round(0, hand, 0, 0), 0, 1, -1);
        CHECKS.bounds("heat", heat -> x.round(0, 0, heat, 0), 0, 9, -1);
        CHECKS.bounds("what", what -> x.round(0, 0, 0, what), 0, 1, -1);
    }

    private static void steady() {
        CHECKS.sentence(0, "STEADY of a HAND at a HEAT: ROWS that are as they were behind two CASTS; the least of those with most MARKS.");
        for (int width = 1; width <= 12; width++) {
            SealCasts x = CHECKS.told("marks " + width + ";hand a wears 0 fills 0;hand b wears 1 fills 0;hand c wears 0 fills 1;"
                + "hand d wears many=" + width + " fills 0;");
            CHECKS.due("all", x.steady(0, 9, 0), 1 << width);
            CHECKS.due("all MARKS", x.steady(0, 9, 1), (1 << width) - 1);
            CHECKS.due("nothing alone", x.steady(1, 0, 0), 1);
            CHECKS.due("nothing alone", x.steady(1, 0, 1), 0);
            CHECKS.due("all MARKS alone", x.steady(2, 0, 0), 1);
            CHECKS.due("all MARKS alone", x.steady(2, 0, 1), (1 << width) - 1);
            CHECKS.due("all but one", x.steady(3, 0, 0), (1 << width) - 1);
            CHECKS.due("the least with one MARK less", x.steady(3, 0, 1), (1 << width - 1) - 1);
        }
        SealCasts y = CHECKS.told("marks 2;hand a wears heat=9 fills heat=9;hand b wears 0 fills 0;");
        CHECKS.due("as behind two, not behind one", y.steady(0, 9, 0), 4);
        CHECKS.sentence(33, "STEADY what 0: how many, 1: that ROW (NONE); NONE if one can't be.");
        CHECKS.bounds("hand", hand -> y.steady(hand, 0, 0), 0, 1, -1);
        CHECKS.bounds("heat", heat -> y.steady(0, heat, 0), 0, 9, -1);
        CHECKS.bounds("what", what -> y.steady(0, 0, what), 0, 1, -1);
    }

    private static void steadyOfNone() {
        CHECKS.sentence(33, "1: that ROW (NONE)");
        // 0, 1, 2, 3 and 0 again.
        SealCasts x = CHECKS.told("marks 2;hand a wears left or right fills left or mark=0 and not right;");
        CHECKS.due("how many", x.steady(0, 0, 0), 0);
        CHECKS.due("the ROW", x.steady(0, 0, 1), -1);
    }

    private static void against() {
        CHECKS.sentence(0, "AGAINST: ROWS (of all) of which CASTS by two HANDS at a HEAT are unlike.");
        for (int width = 1; width <= 12; width++) {
            SealCasts x = CHECKS.told("marks " + width + ";hand a wears 0 fills 0;hand b wears heat=9 and many=" + width + " fills 0;"
                + "hand c wears 0 fills heat=9 and many=0;hand d wears heat fills heat;");
            CHECKS.due("in none", x.against(0, 1, 8), 0);
            CHECKS.due("in the last alone", x.against(0, 1, 9), 1);
            CHECKS.due("in the first alone", x.against(2, 0, 9), 1);
            CHECKS.due("in both", x.against(1, 2, 9), 2);
            CHECKS.due("in all", x.against(0, 3, 1), 1 << width);
            CHECKS.due("with itself", x.against(3, 3, 1), 0);
        }
        CHECKS.sentence(34, "AGAINST: how many; NONE if one can't be.");
        SealCasts y = three();
        CHECKS.bounds("hand", hand -> y.against(hand, 1, 0), 0, 1, -1);
        CHECKS.bounds("other", other -> y.against(1, other, 0), 0, 1, -1);
        CHECKS.bounds("heat", heat -> y.against(0, 1, heat), 0, 9, -1);
    }

    private static void wax() {
        CHECKS.sentence(35, "WAX for a ROW (0 if a SEAL has it)");
        SealCasts x = three();
        CHECKS.due("the first has it", x.wax(3), 0);
        CHECKS.lies(35, x, 0);
        CHECKS.due("the last has it", x.wax(14), 0);
        CHECKS.lies(35, x, 2);
        x.cast(1, 0, 0);
        CHECKS.due("of two that have it the first", x.wax(3), 0);
        CHECKS.lies(35, x, 0);
        x.crack(0, 0);
        CHECKS.due("the other one has it still", x.wax(3), 0);
        CHECKS.lies(35, x, 3);
        CHECKS.due("without HANDS", new SealCasts().wax(0), 0);
        CHECKS.sentence(0, "the fewest wax (no matter how much there is)");
        SealCasts poor = CHECKS.told("marks 2;first 0;wax 0;hand a wears 0 fills heat=3;");
        CHECKS.due("without any", poor.wax(3), 4);
        CHECKS.lies(35, poor, 0, 3);
        CHECKS.sentence(0, "in this YEAR");
        SealCasts later = CHECKS.told("marks 2;hand a wears 0 fills year=1;");
        CHECKS.due("in YEAR 0", later.wax(3), -1);
        later.year();
        CHECKS.due("in YEAR 1", later.wax(3), 1);
        later.undo();
        CHECKS.due("in YEAR 0 again", later.wax(3), -1);
    }

    private static void waxByFourCasts() {
        CHECKS.sentence(0, "by up to 4 CASTS, one of the other");
        // Each CAST wears one MARK of those that were there at first.
        SealCasts x = CHECKS.told("marks 6;first 0 1 2 3 4 5;hand a wears not left fills 0;");
        int row = 63;
        for (int casts = 0; casts <= 6; casts++) {
            CHECKS.due("behind " + casts, x.wax(row), casts <= 4 ? casts : -1);
            if (casts <= 4) {
                CHECKS.lies(35, x, new int[casts + 1]);
            } else {
                CHECKS.lies(35, x);
            }
            row = x.would(row, 0, 0, 0);
        }
        CHECKS.sentence(0, "from one of the SEALS");
        SealCasts full = CHECKS.told("marks 12;hand a wears 0 fills 0;hand b wears 0 fills mark<3;");
        for (int seal = 1; seal < 24; seal++) {
            full.cast(0, seal == 23 ? 1 : 0, 0);
        }
        CHECKS.due("from the last of 24", full.wax(7 << 9), 1);
        CHECKS.lies(35, full, 23, 0);
        full.undo();
        CHECKS.due("from the first", full.wax(7 << 9), 2);
        CHECKS.lies(35, full, 0, 10, 0);
        // From a SEAL behind one CAST it is one less.
        x.cast(0, 0, 0);
        CHECKS.due("behind one and four", x.wax(8), 4);
        CHECKS.lies(35, x, 1, 0, 0, 0, 0);
        CHECKS.due("behind six", x.wax(0), -1);
    }

    private static void waxByHeats() {
        CHECKS.sentence(0, "(by any HANDS, HEATS 0 .. 3)");
        for (int heat = 0; heat <= 9; heat++) {
            SealCasts x = CHECKS.told("marks 2;hand a wears 0 fills 0;hand b wears 0 fills heat=" + heat + ";");
            CHECKS.due("at HEAT " + heat, x.wax(3), heat <= 3 ? heat + 1 : -1);
            if (heat <= 3) {
                CHECKS.lies(35, x, 0, 10 + heat);
            } else {
                CHECKS.lies(35, x);
            }
        }
        // Every HAND, the last too.
        SealCasts four = CHECKS.told("marks 4;hand a wears 0 fills 0;hand b wears 0 fills 0;hand c wears 0 fills 0;hand d wears 0 fills mark=2;");
        CHECKS.due("by the last HAND", four.wax(4), 1);
        CHECKS.lies(35, four, 0, 30);
        // Four CASTS at HEAT 3, the dearest way there is.
        SealCasts dear = CHECKS.told("marks 8;first 0;wax 1;hand a wears heat<3 fills heat=3 and left;");
        CHECKS.due("four at HEAT 3", dear.wax(7), 16);
        CHECKS.lies(35, dear, 0, 3, 3, 3, 3);
    }

    private static void waxOfLikeOnes() {
        CHECKS.sentence(0, "of like ones the first (SEAL; then CAST by CAST, HAND, HEAT; ahead of these: none more)");
        SealCasts y = three();
        CHECKS.due("of two HANDS the first", y.wax(7), 1);
        CHECKS.lies(35, y, 2, 0);
        // From SEAL 0 and from SEAL 1 by one.
        SealCasts z = CHECKS.told("marks 4;first 0;hand a wears 0 fills heat=1;hand b wears 1 fills heat=1;");
        z.cast(0, 0, 0);
        CHECKS.due("from the first SEAL", z.wax(15), 2);
        CHECKS.lies(35, z, 0, 1);
        CHECKS.due("nothing, from the first SEAL", z.wax(0), 1);
        CHECKS.lies(35, z, 0, 10);
        // Of one HAND at two HEATS the less wax; of 1 and 1 or 2 wax at once the HAND goes ahead.
        SealCasts longer = CHECKS.told("marks 4;first 0;hand a wears 0 fills left;hand b wears 1 fills heat=1 and mark<2;");
        CHECKS.due("two of HAND 0", longer.wax(3), 2);
        CHECKS.lies(35, longer, 0, 0, 0);
        SealCasts hotter = CHECKS.told("marks 4;first 0;hand a wears 1 fills heat=1 and mark<2;hand b wears 0 fills left;");
        CHECKS.due("one of HAND 0", hotter.wax(3), 2);
        CHECKS.lies(35, hotter, 0, 1);
        // One HAND: at HEAT 0 twice goes ahead of at HEAT 1 once.
        SealCasts colder = CHECKS.told("marks 4;first 0;hand a wears heat fills left or heat=1 and mark<2;");
        CHECKS.due("twice at HEAT 0", colder.wax(3), 2);
        CHECKS.lies(35, colder, 0, 0, 0);
        // Of what costs as much, what takes five CASTS or HEAT 4 is no way, though it would be the first.
        SealCasts five = CHECKS.told("marks 6;first 0 1 2 3 4 5;hand a wears not left fills 0;hand b wears mark<3 or heat-1 fills 0;");
        CHECKS.due("three of HAND 0, one of HAND 1", five.wax(8), 5);
        CHECKS.lies(35, five, 0, 0, 0, 0, 11);
        SealCasts four = CHECKS.told("marks 2;hand a wears 0 fills heat=4;hand b wears 0 fills heat=3 and mark=0 or many=1;");
        CHECKS.due("at HEAT 3 and HEAT 0", four.wax(3), 5);
        CHECKS.lies(35, four, 0, 13, 10);
        // In the second CAST as in the first.
        SealCasts second = CHECKS.told("marks 4;first 0;hand a wears 0 fills heat=3 and mark=3;hand b wears 0 fills many=1 and mark=1;"
            + "hand c wears 0 fills many=1 and mark=1;");
        CHECKS.due("the second by HAND 0", second.wax(5), 2);
        CHECKS.lies(35, second, 0, 10, 0);
    }

    private static void waxOfNone() {
        CHECKS.sentence(35, "NONE if there is no such way, or one can't be.");
        SealCasts x = three();
        CHECKS.due("no way", x.wax(0), -1);
        CHECKS.bounds("row", CHECKS.told("marks 3;hand a wears 0 fills heat=mark or heat=3;hand b wears has fills heat=mark;")::wax, 0, 7, -1);
        CHECKS.sentence(35, "The SEAL lies there then, and of each CAST 10 * the HAND and its HEAT (behind NONE: nothing).");
        for (int row : new int[] {0, 16, -1, Integer.MIN_VALUE, Integer.MAX_VALUE}) {
            SealCasts y = three();
            CHECKS.due("one way", y.wax(7), 1);
            CHECKS.lies(35, y, 2, 0);
            CHECKS.due("wax(" + row + ")", y.wax(row), -1);
            CHECKS.lies(35, y);
        }
        CHECKS.leavesAll("wax of none", () -> laid(y -> y.wax(-1)), y -> y.wax(99));
    }
}
