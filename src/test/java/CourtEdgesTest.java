/** The edges of ==== 2 in "Terms" and of promises 6 to 16 and 50 to 52: one method for each sentence that names one. */
public final class CourtEdgesTest {
    private static final Checks CHECKS = new Checks("CourtEdgesTest");
    private static final int MIN = Integer.MIN_VALUE;
    private static final int MAX = Integer.MAX_VALUE;

    public static void main(String[] args) {
        turnedMarks();
        whatWasThere();
        neighboursAtTheEnds();
        manyOfNoneAndOfAll();
        yearHeatAndDraw();
        allAtOnce();
        wrapping();
        byZero();
        relations();
        staysAndComes();
        firstSeal();
        seed();
        newSealOfThisYear();
        waxOfActs();
        undoneOnes();
        redoneOnes();
        fortyAreKept();
        seal();
        shown();
        prints();
        turned();
        would();
        cast();
        castRefused();
        print();
        printRefused();
        crack();
        crackRefused();
        year();
        undo();
        redo();
        image();
        imageRefused();
        back();
        backRefused();
        about();
        aboutAnother();
        CHECKS.endOf(0, 6, 7, 8, 9, 10, 11, 12, 13, 14, 15, 16, 50, 51, 52);
    }

    // ---- Terms

    private static void turnedMarks() {
        CHECKS.sentence(0, "A ROW is a set of MARKS, as bits (bit 0: MARK 0). TURNED, MARK m comes to WIDTH - 1 - m.");
        for (int width = 1; width <= 12; width++) {
            SealCasts x = CHECKS.told("marks " + width + ";hand a wears 0 fills 0;");
            for (int mark = 0; mark < width; mark++) {
                CHECKS.due("MARK " + mark + " of " + width, x.turned(1 << mark), 1 << width - 1 - mark);
                CHECKS.due("a CAST of it", x.would(1 << mark, 0, 0, 0), 1 << width - 1 - mark);
            }
            CHECKS.due("no MARKS", x.turned(0), 0);
            CHECKS.due("all MARKS", x.turned((1 << width) - 1), (1 << width) - 1);
        }
    }

    private static void whatWasThere() {
        CHECKS.sentence(0, "of the ROW, TURNED: each MARK by what was there ahead of the CAST");
        // MARK 0, TURNED 3 of 4: what comes by it does not bring more, what goes is still there for the others.
        CHECKS.due("one comes by one", rowAfter("marks 4;hand a wears 0 fills right;", 1), 12);
        CHECKS.due("one comes by one", rowAfter("marks 4;hand a wears 0 fills left;", 8), 3);
        CHECKS.due("all go but the ends", rowAfter("marks 5;hand a wears left and right fills 0;", 31), 17);
        CHECKS.due("all change places", rowAfter("marks 6;hand a wears 1 fills left or right;", 21), 21);
        CHECKS.sentence(0, "mark: its number");
        CHECKS.due("its number when TURNED", rowAfter("marks 4;hand a wears mark fills 0;", 9), 1);
        CHECKS.due("0 to 11", rowAfter("marks 12;hand a wears 0 fills mark=11 or mark=0;", 0), 2049);
        CHECKS.due("none is 12", rowAfter("marks 12;hand a wears 0 fills mark>11 or mark<0;", 0), 0);
        CHECKS.sentence(0, "has: 1 if it is there, else 0");
        CHECKS.due("has is 1", rowAfter("marks 3;hand a wears has-1 fills 0;", 5), 5);
        CHECKS.due("has is 0", rowAfter("marks 3;hand a wears 0 fills has;", 5), 5);
        CHECKS.due("not has", rowAfter("marks 3;hand a wears not has fills not has;", 5), 7);
    }

    private static int rowAfter(String text, int row) {
        return CHECKS.told(text).would(row, 0, 0, 0);
    }

    private static void neighboursAtTheEnds() {
        CHECKS.sentence(0, "left, right: 1 if MARK m - 1, m + 1 is there, else 0");
        for (int width = 1; width <= 12; width++) {
            int all = (1 << width) - 1;
            int last = 1 << width - 1;
            String marks = "marks " + width + ";";
            CHECKS.due("none is left of MARK 0", rowAfter(marks + "hand a wears left fills 0;", all), 1);
            CHECKS.due("none is right of the last", rowAfter(marks + "hand a wears right fills 0;", all), last);
            // The other end is no neighbour: TURNED MARK 0 is the last one.
            CHECKS.due("left of MARK 0", rowAfter(marks + "hand a wears 1 fills left;", 1), 0);
            CHECKS.due("right of the last", rowAfter(marks + "hand a wears 1 fills right;", last), 0);
            CHECKS.due("left of MARK 1", rowAfter(marks + "hand a wears 1 fills left;", last), width > 1 ? 2 : 0);
            CHECKS.due("right of the last but one", rowAfter(marks + "hand a wears 1 fills right;", 1), last >> 1);
        }
        CHECKS.due("left is 1", rowAfter("marks 4;hand a wears left-1 fills 0;", 15), 14);
        CHECKS.due("right is 1", rowAfter("marks 4;hand a wears right-1 fills 0;", 15), 7);
    }

    private static void manyOfNoneAndOfAll() {
        CHECKS.sentence(0, "many: how many are");
        for (int width = 1; width <= 12; width++) {
            SealCasts x = CHECKS.told("marks " + width + ";hand a wears 1 fills many=0;hand b wears many-" + width + " fills 0;"
                + "hand c wears many=1 fills 0;");
            int all = (1 << width) - 1;
            CHECKS.due("of none", x.would(0, 0, 0, 0), all);
            CHECKS.due("of one", x.would(1, 0, 0, 0), 0);
            CHECKS.due("of all", x.would(all, 1, 0, 0), all);
            CHECKS.due("of all but one", x.would(all - 1, 1, 0, 0), 0);
            CHECKS.due("of one", x.would(1, 2, 0, 0), 0);
            CHECKS.due("of two", x.would(3 & all, 2, 0, 0), width > 1 ? 3 << width - 2 : 0);
        }
    }

    private static void yearHeatAndDraw() {
        CHECKS.sentence(0, "year: the YEAR; draw: 0 but where told");
        SealCasts x = CHECKS.told("marks 1;first 0;draw 44;hand y wears 0 fills year=2;hand h wears 0 fills heat=9;"
            + "hand d wears 0 fills draw=99;hand z wears 0 fills draw=0;");
        CHECKS.due("YEAR 0", x.would(0, 0, 0, 0), 0);
        x.year();
        CHECKS.due("YEAR 1", x.would(0, 0, 0, 0), 0);
        x.year();
        CHECKS.due("YEAR 2", x.would(0, 0, 0, 0), 1);
        x.year();
        CHECKS.due("YEAR 3", x.would(0, 0, 0, 0), 0);
        CHECKS.due("HEAT 9", x.would(0, 1, 9, 0), 1);
        CHECKS.due("HEAT 8", x.would(0, 1, 8, 0), 0);
        CHECKS.due("draw 99", x.would(0, 2, 0, 99), 1);
        CHECKS.due("draw 98", x.would(0, 2, 0, 98), 0);
        x.crack(0, 0);
        // The SEED is 44 and not 0; where no draw is told, it is 0.
        CHECKS.due("draw 0 for HEATS", x.heats(0, 3, 1), 1023);
        CHECKS.due("draw 0 for WHOSE", x.whose(0, 0, 1), 8);
    }

    /** What comes of one MARK, HEAT, YEAR, draw or HAND is nothing to another one, in whatever order they are asked. */
    private static void allAtOnce() {
        CHECKS.sentence(0, "each MARK by what was there ahead of the CAST");
        StringBuilder text = new StringBuilder("marks 12;");
        for (int hand = 0; hand < 2; hand++) {
            text.append("hand ").append((char) ('a' + hand)).append(" wears ").append(sum(hand)).append("%3=0 fills ")
                .append(sum(hand)).append("%4=1;");
        }
        SealCasts x = CHECKS.told(text.toString());
        int asked = 0;
        for (int year = 0; year < 3; year++) {
            for (int row = 0; row < 4096; row = 2 * row + 1) {
                for (int each = 0; each < 4; each++) {
                    int hand = each % 2;
                    int heat = asked * 7 % 10;
                    int draw = asked % 5 == 0 ? 0 : asked * 37 % 100;
                    CHECKS.due("would(" + row + ", " + hand + ", " + heat + ", " + draw + ")",
                        x.would(row, hand, heat, draw), castOf(row, hand, year, heat, draw));
                    asked++;
                }
            }
            x.year();
        }
        // A HAND that knows the YEAR and the draw apart, where both together are as much.
        SealCasts y = CHECKS.told("marks 1;hand a wears 0 fills draw-year=1;hand b wears 0 fills draw;");
        CHECKS.due("YEAR 0, draw 1", y.would(0, 0, 0, 1), 1);
        y.year();
        CHECKS.due("YEAR 1, draw 0", y.would(0, 0, 0, 0), 0);
        CHECKS.due("YEAR 1, draw 2", y.would(0, 0, 0, 2), 1);
        y.undo();
        CHECKS.due("YEAR 0, draw 3", y.would(0, 0, 0, 3), 0);
        // Every HEAT with every number of MARKS.
        SealCasts z = CHECKS.told("marks 12;hand a wears (many+heat)%2 fills (many+heat)%3=0;hand b wears (many*heat)%2 fills (many+heat)%5=0;");
        for (int heat = 9; heat >= 0; heat--) {
            for (int many = 12; many >= 0; many--) {
                int row = (1 << many) - 1;
                int there = 4095 & ~(4095 >> many);
                int stay = (many + heat) % 2 == 0 ? there : 0;
                int come = (many + heat) % 3 == 0 ? 4095 & ~there : 0;
                CHECKS.due("many " + many + ", HEAT " + heat, z.would(row, 0, heat, 0), stay | come);
                stay = many * heat % 2 == 0 ? there : 0;
                come = (many + heat) % 5 == 0 ? 4095 & ~there : 0;
                CHECKS.due("many " + many + ", HEAT " + heat, z.would(row, 1, heat, 0), stay | come);
            }
        }
    }

    private static String sum(int hand) {
        return "(" + hand + "+mark*2+has+left*5+right*7+many*3+year*11+heat*13+draw*17)";
    }

    private static int castOf(int row, int hand, int year, int heat, int draw) {
        int from = 0;
        for (int mark = 0; mark < 12; mark++) {
            from |= (row >> mark & 1) << 11 - mark;
        }
        int after = 0;
        for (int mark = 0; mark < 12; mark++) {
            int has = from >> mark & 1;
            int left = mark == 0 ? 0 : from >> mark - 1 & 1;
            int right = from >> mark + 1 & 1;
            int sum = hand + mark * 2 + has + left * 5 + right * 7 + Integer.bitCount(row) * 3 + year * 11 + heat * 13 + draw * 17;
            boolean isThere = has == 1 ? sum % 3 != 0 : sum % 4 == 1;
            after |= isThere ? 1 << mark : 0;
        }
        return after;
    }

    private static void value(String formula, int want) {
        SealCasts x = CHECKS.told("marks 1;hand a wears 0 fills (" + formula + ")=" + want + ";");
        CHECKS.due(formula, x.would(0, 0, 0, 0), 1);
    }

    private static void wrapping() {
        CHECKS.sentence(0, "ints, wrapping");
        value("2047*1024*1024+1024*1024-1>0", 1);
        value("2047*1024*1024+1024*1024<0", 1);
        value("2048*1024*1024<0", 1);
        value("2048*1024*1024-1>0", 1);
        value("2048*1024*1024+2048*1024*1024", 0);
        value("2048*1024*2048", 0);
        value("9999*9999*9999%1000+1000", (int) (9999L * 9999 * 9999) % 1000 + 1000);
        value("0-2048*1024*1024<0", 1);
        value("(0-2048*1024*1024)=2048*1024*1024", 1);
        // The least int by -1 wraps too, and leaves no rest.
        value("2048*1024*1024/(0-1)<0", 1);
        value("2048*1024*1024/(0-1)=2048*1024*1024", 1);
        value("2048*1024*1024%(0-1)", 0);
        // What is told as a draw or a YEAR wraps in formulas as well.
        SealCasts x = CHECKS.told("marks 1;hand a wears 0 fills draw*9999*9999<0;");
        CHECKS.due("21 times 9999 times 9999", x.would(0, 0, 0, 21), 0);
        CHECKS.due("22 times 9999 times 9999", x.would(0, 0, 0, 22), 1);
    }

    private static void byZero() {
        CHECKS.sentence(0, "/ cut, % its rest, both by 0: 0");
        value("7/2", 3);
        value("7%2", 1);
        value("0-(0-7)/2", 3);
        value("0-(0-7)%2", 1);
        value("0-7/(0-2)", 3);
        value("7%(0-2)", 1);
        value("1/2", 0);
        value("5/0", 0);
        value("5%0", 0);
        value("0/0", 0);
        value("0%0", 0);
        value("(0-5)/0", 0);
        value("(0-5)%0", 0);
        value("2048*1024*1024/0", 0);
        value("5/0/0%0", 0);
        SealCasts x = CHECKS.told("marks 4;hand a wears 0 fills not 6/mark;hand b wears 0 fills not 6%mark;");
        CHECKS.due("6 by 0, 1, 2, 3", x.would(0, 0, 0, 0), 1);
        CHECKS.due("rests of 6 by 0, 1, 2, 3", x.would(0, 1, 0, 0), 15);
    }

    private static void relations() {
        CHECKS.sentence(0, "relations, and, or, not are 1 or 0, of what is not 0");
        value("1<2", 1);
        value("2<2", 0);
        value("3<2", 0);
        value("2>1", 1);
        value("2>2", 0);
        value("1>2", 0);
        value("2=2", 1);
        value("2=1", 0);
        value("0-1<0", 1);
        value("0>0-1", 1);
        value("7 and 9", 1);
        value("7 and 0", 0);
        value("0 and 7", 0);
        value("0 and 0", 0);
        value("(0-1) and (0-2)", 1);
        value("7 or 0", 1);
        value("0 or 7", 1);
        value("7 or 9", 1);
        value("0 or 0", 0);
        value("0 or 0-1", 1);
        value("not 0", 1);
        value("not 1", 0);
        value("not 7", 0);
        value("not (0-1)", 0);
        value("not not 7", 1);
        value("(1<2)+(2<3)", 2);
        value("(7 and 9)+(7 or 9)+(not 0)", 3);
        // As much at once as 30 units can hold back: each of five parts waits for what is in the next ( e ).
        String deep = "0 or 1 and 1<1+1*";
        deepest(deep + "1", 1);
        deepest(deep + "0", 0);
        deepest((deep + "(").repeat(4) + deep + "1))))", 1);
        deepest((deep + "(").repeat(4) + deep + "0))))", 0);
        // How they bind, and that like ones go from the left.
        value("1 or 0 and 0", 1);
        value("(1 or 0) and 0", 0);
        value("not 1 or 1", 1);
        value("not 0 and 0", 0);
        value("not 1=0", 1);
        value("2+3*4", 14);
        value("9-3-2", 4);
        value("9-(3-2)", 8);
        value("64/8/2", 4);
        value("64/(8/2)", 16);
        value("9%5%3", 1);
        value("9*5%7", 3);
        value("9%5*7", 28);
        value("3<2+2", 1);
        value("3+2>2*2", 1);
    }

    private static void deepest(String formula, int want) {
        SealCasts x = CHECKS.told("marks 1;hand a wears 0 fills " + formula + ";");
        CHECKS.due(formula, x.would(0, 0, 0, 0), want);
    }

    private static void staysAndComes() {
        CHECKS.sentence(0, "one that is there stays, if what comes of wears is 0; one that is not comes, if what comes of fills is not 0");
        String[] told = {"0", "1", "2", "9999", "0-1", "2048*1024*1024"};
        for (String e : told) {
            boolean is = !e.equals("0");
            SealCasts x = CHECKS.told("marks 2;hand a wears " + e + " fills 0;hand b wears 0 fills " + e + ";");
            CHECKS.due("worn by " + e, x.would(3, 0, 0, 0), is ? 0 : 3);
            CHECKS.due("none comes", x.would(0, 0, 0, 0), 0);
            CHECKS.due("filled by " + e, x.would(0, 1, 0, 0), is ? 3 : 0);
            CHECKS.due("all stay", x.would(3, 1, 0, 0), 3);
        }
        // Wears is nothing to one that is not there, fills nothing to one that is.
        CHECKS.due("each for its own", rowAfter("marks 2;hand a wears 1 fills 1;", 1), 1);
    }

    private static void firstSeal() {
        CHECKS.sentence(0, "SEALS (number 0: the first, its ROW as told, none if it is not told; YEAR 0)");
        SealCasts x = CHECKS.told("first 1 6;");
        CHECKS.due("its ROW", x.seal(0, 0), 66);
        CHECKS.due("its YEAR", x.seal(0, 3), 0);
        x.year();
        CHECKS.due("its YEAR a YEAR later", x.seal(0, 3), 0);
        CHECKS.due("not told", CHECKS.told("wax 5;").seal(0, 0), 0);
        CHECKS.sentence(0, "PRINTS, wax, a YEAR (0 at first), a SEED (draw, at first)");
        SealCasts y = CHECKS.told("wax 5;draw 998;");
        CHECKS.due("wax", y.about(4), 5);
        CHECKS.due("YEAR", y.about(5), 0);
        CHECKS.due("SEED", y.about(6), 998);
    }

    private static void seed() {
        CHECKS.sentence(0, "the SEED becomes its 137-fold and 71 more, modulo 1,000, draw is its rest by 100");
        for (int seed : new int[] {0, 1, 7, 8, 99, 100, 500, 997, 998, 999}) {
            SealCasts x = CHECKS.told("marks 12;draw " + seed + ";hand a wears 1 fills mark<draw/10;hand b wears 1 fills mark<draw%10;");
            int now = seed;
            for (int i = 1; i <= 6; i++) {
                int hand = i % 2;
                x.cast(0, hand, 0);
                now = (now * 137 + 71) % 1000;
                CHECKS.due("SEED", x.about(6), now);
                int draw = now % 100;
                int marks = hand == 0 ? draw / 10 : draw % 10;
                CHECKS.due("MARKS by draw " + draw, x.seal(i, 0), (1 << marks) - 1);
            }
            x.undo();
            x.undo();
            x.print(0);
            x.year();
            CHECKS.due("only a CAST is by a draw", x.about(6), seedBehind(seed, 4));
        }
    }

    private static int seedBehind(int seed, int casts) {
        int now = seed;
        for (int i = 0; i < casts; i++) {
            now = (now * 137 + 71) % 1000;
        }
        return now;
    }

    private static void newSealOfThisYear() {
        CHECKS.sentence(0, "it is a new SEAL of this YEAR (24 at most)");
        SealCasts x = Busy.withAllSeals();
        CHECKS.due("SEALS", x.about(2), 24);
        CHECKS.due("seal(23, 1)", x.seal(23, 1), 11);
        CHECKS.due("seal(24, 0)", x.seal(24, 0), -1);
        CHECKS.due("a 25th", x.cast(0, 0, 0), -1);
        x.undo();
        CHECKS.due("a 24th", x.cast(0, 0, 0), 23);
        CHECKS.due("a 25th", x.cast(0, 0, 0), -1);
        SealCasts y = CHECKS.told("hand a wears 0 fills 0;");
        y.year();
        y.year();
        y.cast(0, 0, 0);
        y.year();
        CHECKS.due("its YEAR", y.seal(1, 3), 2);
        y.cast(1, 0, 0);
        CHECKS.due("the YEAR of the next", y.seal(2, 3), 3);
    }

    private static void waxOfActs() {
        CHECKS.sentence(0, "for 1 wax and HEAT more; a PRINT of a SEAL (its ROW TURNED; 40 at most), for 1 wax");
        for (int heat = 0; heat <= 9; heat++) {
            SealCasts x = CHECKS.told("wax 50;hand a wears 0 fills 0;");
            x.cast(0, 0, heat);
            CHECKS.due("wax behind HEAT " + heat, x.about(4), 49 - heat);
            x.print(0);
            CHECKS.due("wax behind a PRINT", x.about(4), 48 - heat);
            x.undo();
            x.undo();
            CHECKS.due("wax of what was undone", x.about(4), 50);
        }
        SealCasts y = Busy.withAllPrints();
        CHECKS.due("PRINTS", y.about(3), 40);
        CHECKS.due("a 41st", y.print(0), -1);
        y.undo();
        CHECKS.due("a 40th", y.print(0), 39);
        CHECKS.due("a 41st", y.print(0), -1);
        CHECKS.due("the 1st, TURNED", y.shown(0, 0), 12);
        CHECKS.due("the 2nd, TURNED", y.shown(1, 0), y.turned(y.seal(1, 0)));
        CHECKS.sentence(0, "a CRACK: a SEAL has a MARK no more; a YEAR goes by.");
        SealCasts z = CHECKS.told("marks 3;first 0 1 2;wax 0;hand a wears 0 fills 0;");
        z.crack(0, 1);
        z.year();
        CHECKS.due("its ROW", z.seal(0, 0), 5);
        CHECKS.due("no wax for these", z.about(4), 0);
        CHECKS.due("the SEED", z.about(6), 0);
    }

    private static void undoneOnes() {
        CHECKS.sentence(0, "UNDO takes back the latest ACT that was not");
        SealCasts x = CHECKS.told("marks 3;first 0 2;wax 20;draw 7;hand a wears 0 fills draw%2;");
        x.cast(0, 0, 4);
        x.print(1);
        x.crack(0, 2);
        x.year();
        x.undo();
        CHECKS.due("the YEAR", x.about(5), 0);
        CHECKS.due("not the CRACK yet", x.seal(0, 0), 1);
        x.undo();
        CHECKS.due("the CRACK", x.seal(0, 0), 5);
        CHECKS.due("not the PRINT yet", x.about(3), 1);
        x.undo();
        CHECKS.due("the PRINT", x.about(3), 0);
        CHECKS.due("its wax", x.about(4), 15);
        CHECKS.due("shown(0, 0)", x.shown(0, 0), -1);
        CHECKS.due("not the CAST yet", x.about(2), 2);
        x.undo();
        CHECKS.due("the CAST", x.about(2), 1);
        CHECKS.due("its wax", x.about(4), 20);
        CHECKS.due("its SEED", x.about(6), 7);
        CHECKS.due("seal(1, 0)", x.seal(1, 0), -1);
        CHECKS.due("none more", x.undo(), false);
        // One that was redone can be taken back again, and then the one ahead of it.
        x.redo();
        x.redo();
        x.undo();
        CHECKS.due("the PRINT again", x.about(3), 0);
        CHECKS.due("not the CAST", x.about(2), 2);
    }

    private static void redoneOnes() {
        CHECKS.sentence(0, "REDO does that again which was taken back last (till another ACT)");
        SealCasts x = CHECKS.told("marks 3;first 0 2;wax 20;draw 7;hand a wears 0 fills draw%2;hand b wears 0 fills mark=year;");
        x.year();
        x.cast(0, 1, 4);
        x.crack(1, 0);
        x.print(1);
        x.undo();
        x.undo();
        x.undo();
        x.undo();
        CHECKS.due("redo()", x.redo(), true);
        CHECKS.due("the YEAR first", x.about(5), 1);
        CHECKS.due("and no more", x.about(2), 1);
        x.redo();
        CHECKS.due("the CAST", x.seal(1, 0), 7);
        CHECKS.due("its YEAR", x.seal(1, 3), 1);
        CHECKS.due("its HAND", x.seal(1, 2), 1);
        CHECKS.due("its wax", x.about(4), 15);
        CHECKS.due("its SEED", x.about(6), 30);
        x.redo();
        CHECKS.due("the CRACK", x.seal(1, 0), 6);
        x.redo();
        CHECKS.due("the PRINT, of the SEAL with its CRACK", x.shown(0, 0), 3);
        CHECKS.due("none more", x.redo(), false);
        String[] acts = {"cast", "print", "crack", "year"};
        for (String act : acts) {
            SealCasts y = CHECKS.told("first 0 1 2;hand a wears 0 fills 0;");
            y.year();
            y.crack(0, 2);
            y.undo();
            y.undo();
            CHECKS.due("two to redo", y.about(8), 2);
            act(y, act);
            CHECKS.due("none behind " + act, y.about(8), 0);
            CHECKS.due("redo() behind " + act, y.redo(), false);
            CHECKS.due("one to undo", y.about(7), 1);
        }
        // What was taken back behind another ACT is that ACT.
        SealCasts z = CHECKS.told("first 0 1;");
        z.year();
        z.undo();
        z.crack(0, 1);
        z.undo();
        CHECKS.due("one to redo", z.about(8), 1);
        z.redo();
        CHECKS.due("the CRACK", z.seal(0, 0), 1);
        CHECKS.due("not the YEAR", z.about(5), 0);
    }

    private static void act(SealCasts x, String which) {
        switch (which) {
            case "cast": x.cast(0, 0, 0); break;
            case "print": x.print(0); break;
            case "crack": x.crack(0, 0); break;
            default: x.year(); break;
        }
    }

    private static void fortyAreKept() {
        CHECKS.sentence(0, "40 at most are kept, the oldest go");
        for (int many : new int[] {39, 40, 41, 43, 85}) {
            SealCasts x = CHECKS.told("first 0 1 2;");
            x.crack(0, 0);
            x.crack(0, 1);
            for (int i = 2; i < many; i++) {
                x.year();
            }
            int kept = Math.min(many, 40);
            CHECKS.due("kept of " + many, x.about(7), kept);
            int steps = 0;
            while (steps < 100 && x.undo()) {
                steps++;
            }
            CHECKS.due("undone of " + many, steps, kept);
            CHECKS.due("about(7)", x.about(7), 0);
            CHECKS.due("about(8)", x.about(8), kept);
            CHECKS.due("the ROW", x.seal(0, 0), many <= 40 ? 7 : many == 41 ? 6 : 4);
            CHECKS.due("the YEAR", x.about(5), Math.max(0, many - 2 - 40));
            while (steps > -100 && x.redo()) {
                steps--;
            }
            CHECKS.due("redone of " + many, steps, 0);
            CHECKS.due("the YEAR", x.about(5), many - 2);
            CHECKS.due("the ROW", x.seal(0, 0), 4);
        }
        // Every sort of ACT, with the oldest gone, is taken back as it was, and done again.
        int[][] states = new int[49][];
        for (int i = 0; i < 49; i++) {
            states[i] = state(manyActs(i));
        }
        SealCasts back = manyActs(48);
        for (int i = 47; i >= 8; i--) {
            CHECKS.due("one more", back.undo(), true);
            same("state " + i, state(back), states[i]);
        }
        CHECKS.due("none more", back.undo(), false);
        SealCasts on = manyActs(48);
        for (int i = 47; i >= 8; i--) {
            on.undo();
        }
        for (int i = 9; i < 49; i++) {
            CHECKS.due("one more again", on.redo(), true);
            same("state " + i + " again", state(on), states[i]);
        }
        CHECKS.due("none more again", on.redo(), false);
    }

    private static SealCasts manyActs(int many) {
        SealCasts x = CHECKS.told("first 0 1 2 3 4 5 6 7;wax 999;draw 3;hand a wears 0 fills draw%3=mark;");
        for (int i = 1; i <= many; i++) {
            if (i % 4 == 0) {
                x.cast((i - 1) / 4, 0, i % 7);
            } else if (i % 4 == 1) {
                x.print(i / 4);
            } else if (i % 4 == 2 || !x.crack(i / 4, i / 4 % 8)) {
                x.year();
            }
        }
        return x;
    }

    private static int[] state(SealCasts x) {
        int last = x.about(2) - 1;
        return new int[] {x.about(2), x.about(3), x.about(4), x.about(5), x.about(6), x.seal(last, 0), x.seal(last, 3), x.common(0)};
    }

    private static void same(String what, int[] got, int[] want) {
        for (int i = 0; i < want.length; i++) {
            CHECKS.due(what + ", " + i, got[i], want[i]);
        }
    }

    // ---- Promises

    private static void seal() {
        CHECKS.sentence(6, "of which SEAL (NONE), 2: by which HAND (NONE), 3: its YEAR, 4: how many CASTS it is from SEAL 0");
        SealCasts x = Busy.object();
        int[][] want = {{-1, -1, 0, 0}, {0, 0, 0, 1}, {1, 1, 1, 2}};
        for (int seal = 0; seal < 3; seal++) {
            for (int what = 1; what < 5; what++) {
                CHECKS.due("seal(" + seal + ", " + what + ")", x.seal(seal, what), want[seal][what - 1]);
            }
        }
        SealCasts full = Busy.withAllSeals();
        for (int seal = 1; seal < 24; seal++) {
            CHECKS.due("of which", full.seal(seal, 1), seal / 2);
            CHECKS.due("how many CASTS", full.seal(seal, 4), full.seal(seal / 2, 4) + 1);
        }
        CHECKS.sentence(6, "NONE if there is none such, or for another what.");
        CHECKS.bounds("seal(.., 0)", seal -> x.seal(seal, 0), 0, 2, -1);
        CHECKS.bounds("seal(.., 4)", seal -> full.seal(seal, 4), 0, 23, -1);
        CHECKS.bounds("seal(1, ..)", what -> x.seal(1, what), 0, 4, -1);
        full.undo();
        CHECKS.due("one that was undone", full.seal(23, 0), -1);
        CHECKS.due("the one ahead of it", full.seal(22, 0) >= 0, true);
    }

    private static void shown() {
        CHECKS.sentence(7, "Of a PRINT what 0: its ROW, 1: its SEAL, 2: its YEAR; NONE if there is none such, or for another what.");
        SealCasts none = new SealCasts();
        CHECKS.due("of none", none.shown(0, 0), -1);
        SealCasts full = Busy.withAllPrints();
        CHECKS.bounds("shown(.., 0)", print -> full.shown(print, 0), 0, 39, -1);
        CHECKS.bounds("shown(39, ..)", what -> full.shown(39, what), 0, 2, -1);
        full.undo();
        CHECKS.due("one that was undone", full.shown(39, 0), -1);
        CHECKS.due("the one ahead of it", full.shown(38, 1), 0);
        SealCasts x = CHECKS.told("marks 3;first 0;hand a wears 0 fills 0;");
        x.year();
        x.cast(0, 0, 0);
        x.print(1);
        x.crack(1, 2);
        x.year();
        x.print(1);
        int[][] want = {{1, 1, 1}, {0, 1, 2}};
        for (int print = 0; print < 2; print++) {
            for (int what = 0; what < 3; what++) {
                CHECKS.due("shown(" + print + ", " + what + ")", x.shown(print, what), want[print][what]);
            }
        }
    }

    private static void prints() {
        CHECKS.sentence(8, "Of PRINTS of just a ROW what 0: how many, 1: the YEAR of the first, 2: of the last one (NONE)");
        SealCasts x = CHECKS.told("marks 3;first 0 1;");
        int[][] none = {{6, 0, -1, -1}, {0, 0, -1, -1}};
        printed(x, none);
        x.year();
        x.print(0);
        printed(x, new int[][] {{6, 1, 1, 1}, {4, 0, -1, -1}, {7, 0, -1, -1}, {3, 0, -1, -1}});
        x.year();
        x.crack(0, 0);
        x.print(0);
        x.year();
        x.print(0);
        printed(x, new int[][] {{6, 1, 1, 1}, {2, 2, 2, 3}, {0, 0, -1, -1}});
        x.crack(0, 1);
        x.print(0);
        printed(x, new int[][] {{0, 1, 3, 3}});
        SealCasts full = CHECKS.told("wax 999;");
        for (int i = 0; i < 40; i++) {
            full.print(0);
            full.year();
        }
        printed(full, new int[][] {{0, 40, 0, 39}});
        full.undo();
        full.undo();
        printed(full, new int[][] {{0, 39, 0, 38}});
        CHECKS.sentence(8, "NONE if one can't be.");
        CHECKS.bounds("prints(.., 0)", row -> x.prints(row, 0), 0, 7, -1);
        CHECKS.bounds("prints(6, ..)", what -> x.prints(6, what), 0, 2, -1);
        CHECKS.due("another what of none", x.prints(7, 3), -1);
    }

    private static void printed(SealCasts x, int[][] wants) {
        for (int[] want : wants) {
            for (int what = 0; what < 3; what++) {
                CHECKS.due("prints(" + want[0] + ", " + what + ")", x.prints(want[0], what), want[what + 1]);
            }
        }
    }

    private static void turned() {
        CHECKS.sentence(9, "A ROW, TURNED; NONE if one can't be (it has a MARK beyond WIDTH).");
        for (int width = 1; width <= 12; width++) {
            SealCasts x = CHECKS.told("marks " + width + ";");
            CHECKS.bounds("turned", x::turned, 0, (1 << width) - 1, -1);
            for (int beyond = width; beyond < 32; beyond++) {
                CHECKS.due("MARK " + beyond, x.turned(1 << beyond), -1);
                CHECKS.due("MARKS 0 and " + beyond, x.turned(1 | 1 << beyond), -1);
            }
        }
        CHECKS.due("lopsided", CHECKS.told("marks 12;").turned(0b000100110111), 0b111011001000);
        CHECKS.due("lopsided", CHECKS.told("marks 11;").turned(0b00100110111), 0b11101100100);
    }

    private static void would() {
        CHECKS.sentence(10, "What a CAST of a ROW by a HAND at a HEAT (0 .. 9) with a draw (0 .. 99) would be now; NONE if one can't be.");
        SealCasts x = CHECKS.told("marks 5;hand a wears 0 fills 0;hand b wears heat=9 and draw=99 fills year;");
        CHECKS.bounds("row", row -> x.would(row, 0, 0, 0), 0, 31, -1);
        CHECKS.bounds("hand", hand -> x.would(1, hand, 0, 0), 0, 1, -1);
        CHECKS.bounds("heat", heat -> x.would(1, 0, heat, 0), 0, 9, -1);
        CHECKS.bounds("draw", draw -> x.would(1, 0, 0, draw), 0, 99, -1);
        CHECKS.due("at both ends", x.would(31, 1, 9, 99), 0);
        CHECKS.due("one less", x.would(31, 1, 8, 99), 31);
        CHECKS.due("one less", x.would(31, 1, 9, 98), 31);
        CHECKS.due("in YEAR 0", x.would(0, 1, 0, 0), 0);
        x.year();
        CHECKS.due("now", x.would(0, 1, 0, 0), 31);
        CHECKS.bounds("row without HANDS", row -> new SealCasts().would(row, 0, 0, 0), 0, -1, -1);
        CHECKS.leavesAll("would", Busy::object, y -> y.would(3, 0, 9, 99));
    }

    private static void cast() {
        CHECKS.sentence(11, "A CAST: its number");
        SealCasts x = CHECKS.told("wax 999;first 0;hand a wears 0 fills 0;hand b wears 0 fills 1;");
        CHECKS.due("the first", x.cast(0, 0, 0), 1);
        CHECKS.due("at HEAT 9", x.cast(1, 1, 9), 2);
        CHECKS.due("of the last", x.cast(2, 0, 0), 3);
        CHECKS.due("of the first", x.cast(0, 0, 0), 4);
        x.undo();
        CHECKS.due("the number of one undone", x.cast(3, 0, 0), 4);
        CHECKS.due("of which", x.seal(4, 1), 3);
        CHECKS.due("ACTS", x.about(7), 4);
    }

    private static void castRefused() {
        CHECKS.sentence(11, "NONE, doing nothing, if one can't be, there are 24, or the wax is not enough.");
        int[][] wrong = {{3, 0, 0}, {24, 0, 0}, {-1, 0, 0}, {MAX, 0, 0}, {MIN, 0, 0}, {0, 2, 0}, {0, 4, 0}, {0, -1, 0},
            {0, MAX, 0}, {0, MIN, 0}, {0, 0, 10}, {0, 0, -1}, {0, 0, MAX}, {0, 0, MIN}};
        for (int[] w : wrong) {
            CHECKS.due("cast", Busy.object().cast(w[0], w[1], w[2]), -1);
            CHECKS.leavesAll("a CAST that can't be", Busy::object, x -> x.cast(w[0], w[1], w[2]));
        }
        CHECKS.due("a 25th SEAL", Busy.withAllSeals().cast(0, 0, 0), -1);
        CHECKS.leavesAll("a 25th SEAL", Busy::withAllSeals, x -> x.cast(0, 0, 0));
        CHECKS.due("no wax", Busy.withoutWax().about(4), 0);
        CHECKS.due("cast without wax", Busy.withoutWax().cast(0, 0, 0), -1);
        CHECKS.leavesAll("cast without wax", Busy::withoutWax, x -> x.cast(0, 0, 0));
        for (int heat = 0; heat <= 9; heat++) {
            SealCasts enough = CHECKS.told("wax " + (heat + 1) + ";hand a wears 0 fills 0;");
            CHECKS.due("just enough wax", enough.cast(0, 0, heat), 1);
            CHECKS.due("wax then", enough.about(4), 0);
            int less = heat;
            CHECKS.due("one too few", poor(less).cast(0, 0, heat), -1);
            CHECKS.leavesAll("one too few", () -> poor(less), x -> x.cast(0, 0, less));
        }
        SealCasts none = new SealCasts();
        CHECKS.due("without HANDS", none.cast(0, 0, 0), -1);
        CHECKS.leavesAll("without HANDS", SealCasts::new, x -> x.cast(0, 0, 0));
    }

    private static SealCasts poor(int wax) {
        return CHECKS.told("first 0;wax " + wax + ";hand a wears 0 fills 0;");
    }

    private static void print() {
        CHECKS.sentence(12, "A PRINT: its number");
        SealCasts x = CHECKS.told("first 0;wax 3;hand a wears 0 fills 0;");
        x.cast(0, 0, 0);
        CHECKS.due("of the last SEAL", x.print(1), 0);
        CHECKS.due("for the last wax", x.print(0), 1);
        CHECKS.due("without wax", x.print(0), -1);
        x.undo();
        CHECKS.due("the number of one undone", x.print(1), 1);
        CHECKS.due("of which", x.shown(1, 1), 1);
        CHECKS.due("ACTS", x.about(7), 3);
    }

    private static void printRefused() {
        CHECKS.sentence(12, "NONE, doing nothing, if there is no such SEAL, there are 40, or no wax.");
        for (int seal : new int[] {3, 24, -1, MIN, MAX}) {
            CHECKS.due("print(" + seal + ")", Busy.object().print(seal), -1);
            CHECKS.leavesAll("print(" + seal + ")", Busy::object, x -> x.print(seal));
        }
        CHECKS.due("a 41st", Busy.withAllPrints().print(0), -1);
        CHECKS.leavesAll("a 41st", Busy::withAllPrints, x -> x.print(0));
        CHECKS.due("without wax", Busy.withoutWax().print(0), -1);
        CHECKS.leavesAll("without wax", Busy::withoutWax, x -> x.print(0));
        CHECKS.due("with 1 wax", poor(1).print(0), 0);
        CHECKS.due("with 0 wax", poor(0).print(0), -1);
    }

    private static void crack() {
        CHECKS.sentence(13, "A CRACK: true");
        SealCasts x = CHECKS.told("marks 12;first 0 5 11;wax 1;hand a wears 0 fills 0;");
        x.cast(0, 0, 0);
        CHECKS.due("the last MARK", x.crack(0, 11), true);
        CHECKS.due("the first MARK", x.crack(0, 0), true);
        CHECKS.due("the only one", x.crack(0, 5), true);
        CHECKS.due("its ROW", x.seal(0, 0), 0);
        CHECKS.due("that of its CAST", x.seal(1, 0), 2048 | 64 | 1);
        CHECKS.due("of the last SEAL", x.crack(1, 6), true);
        CHECKS.due("ACTS", x.about(7), 5);
        CHECKS.due("wax", x.about(4), 0);
    }

    private static void crackRefused() {
        CHECKS.sentence(13, "false, doing nothing, if one can't be, or the SEAL has it not.");
        // SEAL 0 of it has 2, its MARK 0 is gone by a CRACK.
        int[][] wrong = {{0, 0}, {0, 2}, {0, 3}, {0, 4}, {0, 31}, {0, 32}, {0, 33}, {0, -1}, {0, -31}, {0, MIN}, {0, MAX},
            {3, 0}, {3, 1}, {24, 1}, {-1, 1}, {MIN, 1}, {MAX, 1}};
        CHECKS.due("SEAL 0", Busy.object().seal(0, 0), 2);
        for (int[] w : wrong) {
            CHECKS.due("crack(" + w[0] + ", " + w[1] + ")", Busy.object().crack(w[0], w[1]), false);
            CHECKS.leavesAll("crack(" + w[0] + ", " + w[1] + ")", Busy::object, x -> x.crack(w[0], w[1]));
        }
        CHECKS.due("one that it has", Busy.object().crack(0, 1), true);
        SealCasts x = CHECKS.told("marks 4;first 3;");
        CHECKS.due("the first time", x.crack(0, 3), true);
        CHECKS.due("a second time", x.crack(0, 3), false);
        x.undo();
        CHECKS.due("behind UNDO", x.crack(0, 3), true);
        x.undo();
        x.redo();
        CHECKS.due("behind REDO", x.crack(0, 3), false);
    }

    /** More calls than the document speaks of; the bound is told all the same, so the code keeps it. */
    private static void year() {
        CHECKS.sentence(14, "A YEAR goes by: the YEAR; NONE, doing nothing, if it would be above 999.");
        SealCasts x = new SealCasts();
        for (int year = 1; year <= 999; year++) {
            CHECKS.due("year()", x.year(), year);
        }
        CHECKS.due("above 999", x.year(), -1);
        CHECKS.due("about(5)", x.about(5), 999);
        CHECKS.leavesAll("above 999", CourtEdgesTest::lastYear, SealCasts::year);
        SealCasts y = lastYear();
        y.undo();
        CHECKS.due("999 again", y.year(), 999);
        CHECKS.due("none to redo then", y.about(8), 0);
    }

    /** In YEAR 999, with an ACT to redo. */
    private static SealCasts lastYear() {
        SealCasts x = new SealCasts();
        for (int i = 0; i < 999; i++) {
            x.year();
        }
        x.print(0);
        x.undo();
        return x;
    }

    private static void undo() {
        CHECKS.sentence(15, "UNDO: true; false if there is none.");
        SealCasts x = new SealCasts();
        CHECKS.due("of none", x.undo(), false);
        x.year();
        CHECKS.due("of one", x.undo(), true);
        CHECKS.due("once more", x.undo(), false);
        CHECKS.leavesAll("undo() of none", () -> {
            SealCasts y = Busy.object();
            for (int i = 0; i < 5; i++) {
                y.undo();
            }
            return y;
        }, SealCasts::undo);
        // What is no ACT is not undone: asked, told, kept in a BOX, fed.
        SealCasts z = CHECKS.told("first 0;hand a wears 0 fills 0;");
        z.sample(1, false);
        z.later(1);
        z.untell(0);
        z.image(0);
        z.tell();
        z.wax(1);
        z.feed(0, 0, 0, 0, 0);
        CHECKS.due("what is no ACT", z.undo(), false);
        CHECKS.due("FACTS stay", z.about(9), 1);
        z.year();
        z.back(0);
        CHECKS.due("behind back", z.undo(), false);
        z.year();
        z.end(0);
        z.chancery();
        CHECKS.due("behind chancery", z.undo(), false);
    }

    private static void redo() {
        CHECKS.sentence(16, "REDO: true; false if there is none.");
        SealCasts x = new SealCasts();
        CHECKS.due("of none", x.redo(), false);
        x.year();
        CHECKS.due("none was undone", x.redo(), false);
        x.undo();
        CHECKS.due("of one", x.redo(), true);
        CHECKS.due("once more", x.redo(), false);
        CHECKS.leavesAll("redo() of none", () -> {
            SealCasts y = Busy.object();
            y.redo();
            y.redo();
            return y;
        }, SealCasts::redo);
        // What is no ACT leaves what can be redone, and so does an ACT that is refused.
        SealCasts z = Busy.object();
        z.sample(1, false);
        z.later(1);
        z.image(0);
        z.tell();
        z.wax(1);
        z.end(0);
        z.print(99);
        z.crack(0, 3);
        z.cast(0, 9, 9);
        z.undo();
        CHECKS.due("about(8)", z.about(8), 3);
        CHECKS.due("redo()", z.redo(), true);
        z.back(1);
        CHECKS.due("behind back", z.redo(), false);
        SealCasts w = Busy.object();
        w.chancery();
        CHECKS.due("behind chancery", w.redo(), false);
    }

    private static void image() {
        CHECKS.sentence(50, "SEALS, PRINTS, wax, YEAR, SEED are kept in a BOX 0 .. 2: how many SEALS");
        CHECKS.due("of one SEAL", new SealCasts().image(0), 1);
        CHECKS.due("of three", Busy.object().image(0), 3);
        CHECKS.due("of 24", Busy.withAllSeals().image(2), 24);
        for (int box = 0; box < 3; box++) {
            SealCasts x = Busy.withAllSeals();
            x.image(box);
            int wax = x.about(4);
            int seed = x.about(6);
            x.undo();
            x.undo();
            x.crack(3, 0);
            x.crack(3, 1);
            x.year();
            x.print(0);
            CHECKS.due("back(" + box + ")", x.back(box), 24);
            CHECKS.due("PRINTS", x.about(3), 0);
            CHECKS.due("wax", x.about(4), wax);
            CHECKS.due("YEAR", x.about(5), 0);
            CHECKS.due("SEED", x.about(6), seed);
            SealCasts twin = Busy.withAllSeals();
            for (int seal = 0; seal < 24; seal++) {
                for (int what = 0; what < 5; what++) {
                    CHECKS.due("seal(" + seal + ", " + what + ")", x.seal(seal, what), twin.seal(seal, what));
                }
            }
        }
        // Nothing else is changed by it, and nothing by keeping once more what is kept.
        CHECKS.leavesAll("image once more", () -> {
            SealCasts x = Busy.object();
            x.image(2);
            return x;
        }, x -> x.image(2));
        SealCasts full = Busy.withAllPrints();
        full.image(1);
        full.undo();
        full.back(1);
        CHECKS.due("all PRINTS", full.about(3), 40);
        CHECKS.due("the last", full.shown(39, 1), 1);
        // Others in the place of those that were kept do not change these.
        SealCasts other = twoBranches();
        other.image(0);
        for (int i = 0; i < 6; i++) {
            other.undo();
        }
        other.year();
        other.year();
        other.year();
        other.cast(0, 1, 1);
        other.cast(0, 0, 2);
        other.print(2);
        other.print(0);
        other.image(2);
        CHECKS.due("back(0)", other.back(0), 3);
        other.image(1);
        SealCasts kept = twoBranches();
        for (int seal = 0; seal < 3; seal++) {
            for (int what = 0; what < 5; what++) {
                CHECKS.due("seal(" + seal + ", " + what + ")", other.seal(seal, what), kept.seal(seal, what));
            }
        }
        for (int print = 0; print < 2; print++) {
            for (int what = 0; what < 3; what++) {
                CHECKS.due("shown(" + print + ", " + what + ")", other.shown(print, what), kept.shown(print, what));
            }
        }
        other.back(2);
        int[] want = {14, 0, 0, 3, 1};
        for (int what = 0; what < 5; what++) {
            CHECKS.due("seal(2, " + what + ") of the other BOX", other.seal(2, what), want[what]);
        }
        CHECKS.due("shown(0, 1) of the other BOX", other.shown(0, 1), 2);
        CHECKS.due("shown(0, 2) of the other BOX", other.shown(0, 2), 3);
    }

    /** SEAL 1 of 0, SEAL 2 of 1 a YEAR later, each with a PRINT. */
    private static SealCasts twoBranches() {
        SealCasts x = CHECKS.told("marks 4;first 0 1;hand a wears 0 fills mark=1;hand b wears mark=0 fills 0;");
        x.cast(0, 0, 0);
        x.print(1);
        x.year();
        x.cast(1, 1, 0);
        x.print(2);
        x.crack(0, 1);
        return x;
    }

    private static void imageRefused() {
        CHECKS.sentence(50, "NONE if there is none such.");
        CHECKS.bounds("image", box -> new SealCasts().image(box), 0, 2, -1);
        for (int box : new int[] {3, -1, MIN, MAX}) {
            CHECKS.leavesAll("image(" + box + ")", Busy::object, x -> x.image(box));
        }
    }

    private static void back() {
        CHECKS.sentence(51, "All is as it was kept (no ACTS are kept then): how many SEALS");
        SealCasts x = Busy.object();
        int facts = x.about(9);
        int lying = x.about(13);
        CHECKS.due("back(1)", x.back(1), 2);
        int[] want = {2, 4, 2, 1, 56, 1, 756, 0, 0, facts, 3, Busy.ON_TAPE.length(), Busy.object().about(12), lying};
        for (int what = 0; what < want.length; what++) {
            CHECKS.due("about(" + what + ")", x.about(what), want[what]);
        }
        CHECKS.due("the CRACK is not", x.seal(0, 0), 3);
        CHECKS.due("undo()", x.undo(), false);
        CHECKS.due("redo()", x.redo(), false);
        CHECKS.due("lies(0)", x.lies(0), 2);
        // The BOX stays as it was kept, and other BOXES are other ones.
        x.cast(0, 0, 0);
        x.crack(0, 0);
        x.year();
        CHECKS.due("image(0)", x.image(0), 3);
        CHECKS.due("back(1) once more", x.back(1), 2);
        CHECKS.due("its ROW", x.seal(0, 0), 3);
        CHECKS.due("YEAR", x.about(5), 1);
        CHECKS.due("back(0)", x.back(0), 3);
        CHECKS.due("its ROW there", x.seal(0, 0), 2);
        CHECKS.due("YEAR there", x.about(5), 2);
        // Kept once more, it is as kept last.
        x.year();
        x.image(1);
        x.year();
        CHECKS.due("back(1) as kept last", x.back(1), 3);
        CHECKS.due("YEAR as kept last", x.about(5), 3);
        // What comes of formulas is by the YEAR that was kept.
        SealCasts y = CHECKS.told("marks 1;hand a wears 0 fills year;");
        y.image(0);
        y.year();
        CHECKS.due("in YEAR 1", y.would(0, 0, 0, 0), 1);
        y.back(0);
        CHECKS.due("in YEAR 0", y.would(0, 0, 0, 0), 0);
    }

    private static void backRefused() {
        CHECKS.sentence(51, "NONE, doing nothing, if nothing was.");
        CHECKS.bounds("back without BOXES", box -> new SealCasts().back(box), 0, -1, -1);
        SealCasts one = new SealCasts();
        one.image(1);
        CHECKS.bounds("back with one BOX", one::back, 1, 1, -1);
        SealCasts all = new SealCasts();
        all.image(0);
        all.image(1);
        all.image(2);
        CHECKS.bounds("back with all BOXES", all::back, 0, 2, -1);
        for (int box : new int[] {0, 2, 3, -1, MIN, MAX}) {
            CHECKS.due("back(" + box + ")", Busy.object().back(box), -1);
            CHECKS.leavesAll("back(" + box + ")", Busy::object, x -> x.back(box));
        }
    }

    private static void about() {
        CHECKS.sentence(52, "What 0: HANDS, 1: WIDTH, 2: SEALS, 3: PRINTS, 4: the wax, 5: the YEAR, 6: the SEED, "
            + "7: ACTS that can be undone, 8: redone, 9: FACTS, 10: the TIME, 11: bytes on the TAPE, 12: units, 13: numbers that lie there.");
        // 60 wax less 3, 1 and 1; the SEED is 5, 756, 643; ACTS: CAST, PRINT, YEAR, CAST, CRACK and two undone.
        int[] want = {2, 4, 3, 1, 55, 1, 643, 5, 2, 8, 3, 14, 10, 1};
        SealCasts x = Busy.object();
        for (int what = 0; what < want.length; what++) {
            CHECKS.due("about(" + what + ")", x.about(what), want[what]);
        }
        CHECKS.leavesAll("about", Busy::object, y -> y.about(13));
    }

    private static void aboutAnother() {
        CHECKS.sentence(52, "NONE for another what.");
        CHECKS.bounds("about", Busy.object()::about, 0, 13, -1);
    }
}
