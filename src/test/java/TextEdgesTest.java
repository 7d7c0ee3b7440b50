/** The edges of the text in "Terms" and of promises 1 to 5: one method for each sentence that names one. */
public final class TextEdgesTest {
    private static final Checks CHECKS = new Checks("TextEdgesTest");
    private static final int MIN = Integer.MIN_VALUE;
    private static final int MAX = Integer.MAX_VALUE;
    private static final String[] WORDS = {"marks", "first", "hand", "wears", "fills", "wax", "draw", "or", "and", "not",
        "mark", "has", "left", "right", "many", "year", "heat"};

    public static void main(String[] args) {
        textOf1600Bytes();
        textOfLines();
        unfinishedLines();
        formulas();
        words();
        numbers();
        signsAndBlanks();
        asLongAsCanBe();
        letterBehindNumber();
        wordsAreNoNames();
        marks();
        marksAheadOfAll();
        first();
        hands();
        waxAndDraw();
        unitsInAll();
        unitsInOne();
        nests();
        firstFaultByPlace();
        placeOfTheEnd();
        leastAtOnePlace();
        noToken();
        cannotStandThere();
        toldAlready();
        numberThatCannotBe();
        newObject();
        feed();
        feedBeyond();
        end();
        endRefused();
        chanceryTakesTheTape();
        chanceryBeginsAnew();
        oneChanceryBehindAnother();
        chanceryKeepsTheTime();
        chanceryWithFault();
        fault();
        faultOfAnotherWhat();
        CHECKS.endOf(0, 1, 2, 3, 4, 5);
    }

    // ---- Terms

    private static void textOf1600Bytes() {
        CHECKS.sentence(0, "A CHANCERY is a text of at most 1,600 bytes (empty at first): chancery = {line}.");
        SealCasts x = CHECKS.told("wax 5;" + " ".repeat(1600 - 13) + "draw 7;");
        CHECKS.due("wax from a full TAPE", x.about(4), 5);
        CHECKS.due("draw from its last bytes", x.about(6), 7);
        CHECKS.fault("wax 5;" + " ".repeat(1593) + "!", 1, 1599);
        CHECKS.fault(" ".repeat(1595) + "wax 5", 2, 1600);
        CHECKS.fault(" ".repeat(1597) + "wax", 2, 1600);
        CHECKS.fault("\n".repeat(1599) + "!", 1, 1599);
        CHECKS.fault(" ".repeat(1599) + ";", 2, 1599);
        CHECKS.fault(" ".repeat(1599) + "a", 2, 1599);
        CHECKS.fault(" ".repeat(1599) + "5", 2, 1599);
        CHECKS.fault(";".repeat(1600), 2, 0);
        CHECKS.fine(" ".repeat(1600), 0, 0);
        StringBuilder full = new StringBuilder("marks 12;first 0;");
        while (full.length() < 1577) {
            full.append(" \n");
        }
        full.append("wax 9;");
        CHECKS.fine(full.toString(), 0, 0);
    }

    private static void textOfLines() {
        CHECKS.sentence(0, "line = marks N ; | first N {N} ; | hand NAME wears e fills e ; | wax N ; | draw N ;.");
        CHECKS.fine("", 0, 0);
        CHECKS.fine(" ", 0, 0);
        CHECKS.fine("\n\n \n", 0, 0);
        CHECKS.fine("marks 3;", 0, 0);
        CHECKS.fine("first 3;", 0, 0);
        CHECKS.fine("hand a wears 0 fills 0;", 1, 2);
        CHECKS.fine("wax 3;", 0, 0);
        CHECKS.fine("draw 3;", 0, 0);
        CHECKS.fine("draw 3;wax 3;hand a wears 0 fills 0;first 3;", 1, 2);
        CHECKS.fine("marks 9;hand a wears 0 fills 0;draw 3;hand b wears 0 fills 0;first 3;wax 3;", 2, 4);
        CHECKS.fault(";", 2, 0);
        CHECKS.fault("wax 3;;", 2, 6);
        CHECKS.fault("5;", 2, 0);
        CHECKS.fault("smith 5;", 2, 0);
        for (String word : WORDS) {
            boolean begins = "marks first hand wax draw".contains(word) && !word.equals("mark");
            if (!begins) {
                CHECKS.fault(word + " 5;", 2, 0);
                CHECKS.fault("wax 5;" + word + " 5;", 2, 6);
            }
        }
        CHECKS.fault("marks;", 2, 5);
        CHECKS.fault("marks first;", 2, 6);
        CHECKS.fault("marks 3 3;", 2, 8);
        CHECKS.fault("first;", 2, 5);
        CHECKS.fault("first a;", 2, 6);
        CHECKS.fault("first 1 a;", 2, 8);
        CHECKS.fault("wax;", 2, 3);
        CHECKS.fault("wax 3 3;", 2, 6);
        CHECKS.fault("wax (3);", 2, 4);
        CHECKS.fault("draw;", 2, 4);
        CHECKS.fault("draw 3 3;", 2, 7);
        CHECKS.fault("draw -3;", 2, 5);
        CHECKS.fault("hand;", 2, 4);
        CHECKS.fault("hand 7 wears 0 fills 0;", 2, 5);
        CHECKS.fault("hand a 0 fills 0;", 2, 7);
        CHECKS.fault("hand a b wears 0 fills 0;", 2, 7);
        CHECKS.fault("hand a fills 0 wears 0;", 2, 7);
        CHECKS.fault("hand a wears 0 wears 0;", 2, 15);
        CHECKS.fault("hand a wears 0;", 2, 14);
        CHECKS.fault("hand a wears fills 0;", 2, 13);
        CHECKS.fault("hand a wears 0 fills;", 2, 20);
        CHECKS.fault("hand a wears 0 fills 0 wears 0;", 2, 23);
    }

    private static void unfinishedLines() {
        CHECKS.sentence(0, "(bytes from 0; the end: the text's length)");
        String[] lines = {"marks 3;", "first 3 4;", "hand a wears 0 or 1 fills (has);", "wax 3;", "draw 3;"};
        for (String line : lines) {
            for (int cut = 1; cut < line.length(); cut++) {
                char before = line.charAt(cut - 1);
                char behind = line.charAt(cut);
                boolean cutsWord = Character.isLetter(before) && Character.isLetter(behind);
                if (!cutsWord) {
                    CHECKS.fault(line.substring(0, cut), 2, cut);
                    CHECKS.fault(line.substring(0, cut) + "\n", 2, cut + 1);
                    CHECKS.fault(" " + line.substring(0, cut) + "  ", 2, cut + 3);
                }
            }
        }
    }

    private static void formulas() {
        CHECKS.sentence(0, "e = both {or both}. both = one {and one}. one = not one | sum [(< | > | =) sum].");
        String[] fine = {"1 or 1 or 1", "1 and 1 and 1", "1 or 1 and 1 or 1", "not 1", "not not 1", "not 1 and not 1",
            "1 or not 1", "1<1", "1>1 and 1=1", "not 1<1", "1+1-1<1-1+1", "1*1/1%1", "1+1*1=1*1+1", "(1<1)<1",
            "1<(1<1)", "1*(not 1)", "(1 or 1)*(1 and 1)"};
        for (String e : fine) {
            SealCasts x = new SealCasts();
            Checks.feedText(x, "hand a wears " + e + " fills " + e + ";");
            CHECKS.due("chancery with " + e, x.chancery(), 1);
        }
        // What can't stand there, and how many bytes of e are ahead of it.
        String[] wrong = {"1<1<1", "1=1>1", "1 1", "1 not 1", "1 or", "or 1", "1 and or 1", "not", "+1", "1+", "1+*1",
            "1+not 1", "1*not 1", "1<not 1", "(1", "1)", "()", "(1 1)", "1 or (1", "mark has", "wears", "1;1"};
        int[] ahead = {3, 3, 2, 2, 5, 0, 6, 4, 0, 3, 2, 2, 2, 2, 3, 1, 1, 3, 8, 5, 0, 1};
        for (int i = 0; i < wrong.length; i++) {
            CHECKS.fault("hand a wears " + wrong[i] + " fills 0;", 2, 13 + ahead[i]);
        }
        CHECKS.sentence(0, "unit = N | mark | has | left | right | many | year | heat | draw | ( e ).");
        for (String word : WORDS) {
            boolean isUnit = "mark has left right many year heat draw".contains(word);
            if (isUnit) {
                CHECKS.fine("hand a wears " + word + " fills 0;", 1, 2);
            } else if (!word.equals("not")) {
                CHECKS.fault("hand a wears " + word + " fills 0;", 2, 13);
            }
        }
        CHECKS.fault("hand a wears a fills 0;", 2, 13);
    }

    private static void words() {
        CHECKS.sentence(0, "words (a .. z, 8 at most)");
        CHECKS.fine("hand a wears 0 fills 0;hand z wears 0 fills 0;", 2, 4);
        CHECKS.fine("hand abcdefgh wears 0 fills 0;hand zzzzzzzz wears 0 fills 0;", 2, 4);
        CHECKS.fault("hand abcdefghi wears 0 fills 0;", 1, 5);
        CHECKS.fault("hand zzzzzzzzz wears 0 fills 0;", 1, 5);
        CHECKS.fault("hand aaaaaaaaaaaaaaaaaaaaaaaaaaaaaaaaaaaaaaaaaa wears 0 fills 0;", 1, 5);
        CHECKS.fault("abcdefgh", 2, 0);
        CHECKS.fault("abcdefghi", 1, 0);
        // Eight letters are read to the last of them.
        CHECKS.fine("hand abcdefgh wears 0 fills 0;hand abcdefgi wears 0 fills 0;", 2, 4);
        CHECKS.fault("hand abcdefgh wears 0 fills 0;hand abcdefgh wears 0 fills 0;", 3, 35);
        CHECKS.fine("hand a wears 0 fills 0;hand aa wears 0 fills 0;hand aaa wears 0 fills 0;", 3, 6);
        CHECKS.fault("hand A wears 0 fills 0;", 1, 5);
        CHECKS.fault("hand Z wears 0 fills 0;", 1, 5);
        CHECKS.fault("hand aZ wears 0 fills 0;", 1, 6);
        CHECKS.fault("hand a_b wears 0 fills 0;", 1, 6);
        CHECKS.fault("hand a1 wears 0 fills 0;", 2, 6);
    }

    private static void numbers() {
        CHECKS.sentence(0, "N (1 to 4 digits)");
        CHECKS.due("wax 0", CHECKS.told("wax 0;").about(4), 0);
        CHECKS.due("wax 9", CHECKS.told("wax 9;").about(4), 9);
        CHECKS.due("wax 09", CHECKS.told("wax 09;").about(4), 9);
        CHECKS.due("wax 0120", CHECKS.told("wax 0120;").about(4), 120);
        CHECKS.due("wax 0000", CHECKS.told("wax 0000;").about(4), 0);
        CHECKS.fault("wax 00120;", 1, 4);
        CHECKS.fault("wax 00000;", 1, 4);
        CHECKS.fault("wax 4294967301;", 1, 4);
        CHECKS.fine("hand a wears 9999 fills 0000;", 1, 2);
        CHECKS.fault("hand a wears 10000 fills 0;", 1, 13);
        CHECKS.fault("hand a wears 0 fills 99999;", 1, 21);
        CHECKS.due("9999", CHECKS.told("marks 1;hand a wears 0 fills 9999-9998=1;").would(0, 0, 0, 0), 1);
    }

    private static void signsAndBlanks() {
        CHECKS.sentence(0, "signs ; ( ) < > = + - * / %; blanks (32, 10) part them or not");
        for (int sign = 0; sign < 256; sign++) {
            String text = "wax 5" + (char) sign + ";";
            if (sign == ' ' || sign == '\n' || (sign >= '0' && sign <= '9')) {
                CHECKS.fine(text, 0, 0);
            } else if (sign == ';') {
                CHECKS.fault(text, 2, 6);
            } else if (sign >= 'a' && sign <= 'z') {
                CHECKS.fault(text, 1, 4);
            } else if ("()<>=+-*/%".indexOf(sign) >= 0) {
                CHECKS.fault(text, 2, 5);
            } else {
                CHECKS.fault(text, 1, 5);
            }
        }
        // At a line's beginning, behind a word, and at the end a byte that is none is none too.
        for (int sign : new int[] {0, 9, 11, 13, 14, 15, 22, 31, 33, 44, 46, 58, 64, 91, 96, 123, 127, 128, 138, 160, 255}) {
            CHECKS.fault((char) sign + "wax 5;", 1, 0);
            CHECKS.fault("wax" + (char) sign + "5;", 1, 3);
            CHECKS.fault("wax 5;" + (char) sign, 1, 6);
            CHECKS.fault("hand a wears 1" + (char) sign + "1 fills 0;", 1, 14);
        }
        CHECKS.fine("marks4;first0 1;hand a wears(mark)<(has)fills(left)=1;wax5;draw7;", 1, 7);
        CHECKS.fine(" marks \n 4 ; first 0\n1 ; hand\na wears ( mark ) < ( has ) fills ( left ) = 1 ; ", 1, 7);
        CHECKS.fine("\nwax\n5\n;\n", 0, 0);
        CHECKS.due("blanks part numbers", CHECKS.told("first 1\n2 3;").seal(0, 0), 14);
    }

    private static void asLongAsCanBe() {
        CHECKS.sentence(0, "each is as long as can be");
        CHECKS.fine("hand markhas wears 0 fills 0;", 1, 2);
        CHECKS.fault("hand a wears notmark fills 0;", 2, 13);
        CHECKS.fault("hand a wears mark ormark fills 0;", 2, 18);
        CHECKS.fault("handa wears 0 fills 0;", 2, 0);
        CHECKS.fault("wa x 5;", 2, 0);
        CHECKS.fault("first 12;", 4, 6);
        CHECKS.due("first 1 2", CHECKS.told("first 1 2;").seal(0, 0), 6);
        CHECKS.due("wax 12", CHECKS.told("wax 12;").about(4), 12);
        CHECKS.due("marks 12", CHECKS.told("marks 12;").about(1), 12);
    }

    private static void letterBehindNumber() {
        CHECKS.sentence(0, "no letter directly behind an N");
        CHECKS.fault("wax 5a;", 1, 4);
        CHECKS.fault("wax 5z;", 1, 4);
        CHECKS.fault("wax 9999z;", 1, 4);
        CHECKS.fault("hand a wears 0fills 0;", 1, 13);
        CHECKS.fault("hand a wears 1and 1 fills 0;", 1, 13);
        CHECKS.fault("wax 5", 2, 5);
        CHECKS.fault("wax 5 a;", 2, 6);
        CHECKS.fault("wax 5\na;", 2, 6);
        CHECKS.fine("hand a wears 0 fills 0;", 1, 2);
        CHECKS.fine("hand a wears(0)fills 0;", 1, 3);
        CHECKS.fine("wax 5;draw 5;", 0, 0);
        CHECKS.fault("wax 5A;", 1, 5);
    }

    private static void wordsAreNoNames() {
        CHECKS.sentence(0, "Words that stand for themselves here are no NAMES.");
        for (String word : WORDS) {
            CHECKS.fault("hand " + word + " wears 0 fills 0;", 2, 5);
            CHECKS.fine("hand " + word + "x wears 0 fills 0;", 1, 2);
            CHECKS.fine("hand x" + word + " wears 0 fills 0;", 1, 2);
            if (!word.equals("marks")) {
                CHECKS.fine("hand " + word.substring(0, word.length() - 1) + " wears 0 fills 0;", 1, 2);
            }
        }
        for (String name : new String[] {"e", "n", "name", "seal", "cast", "print", "one", "both", "sum", "term", "unit"}) {
            CHECKS.fine("hand " + name + " wears 0 fills 0;", 1, 2);
        }
    }

    private static void marks() {
        CHECKS.sentence(0, "marks (the WIDTH, 1 .. 12; 8 if not told) once, ahead of all others");
        for (int width = 1; width <= 12; width++) {
            SealCasts x = CHECKS.told("marks " + width + ";");
            CHECKS.due("WIDTH", x.about(1), width);
            CHECKS.due("the last MARK, TURNED", x.turned(1 << width - 1), 1);
            CHECKS.due("one beyond", x.turned(1 << width), -1);
        }
        CHECKS.due("not told", CHECKS.told("wax 5;").about(1), 8);
        CHECKS.due("not told behind told", again("marks 3;", "wax 5;").about(1), 8);
        CHECKS.fault("marks 0;", 4, 6);
        CHECKS.fault("marks 13;", 4, 6);
        CHECKS.fault("marks 9999;", 4, 6);
        CHECKS.fault("marks 4;marks 4;", 2, 8);
        CHECKS.fault("marks 4;wax 5;marks 4;", 2, 14);
    }

    private static SealCasts again(String text, String next) {
        SealCasts x = CHECKS.told(text);
        Checks.feedText(x, next);
        CHECKS.due("chancery of " + next, x.chancery() >= 0, true);
        return x;
    }

    private static void marksAheadOfAll() {
        CHECKS.sentence(0, "marks behind another line: at the line's first word");
        for (String line : new String[] {"first 0;", "hand a wears 0 fills 0;", "wax 5;", "draw 5;"}) {
            CHECKS.fault(line + "marks 4;", 2, line.length());
            CHECKS.fault(line + " marks", 2, line.length() + 1);
            CHECKS.fine("marks 4;" + line, line.startsWith("hand") ? 1 : 0, line.startsWith("hand") ? 2 : 0);
        }
    }

    private static void first() {
        CHECKS.sentence(0, "first (MARKS 0 .. WIDTH - 1, each once) once");
        for (int width = 1; width <= 12; width++) {
            String text = "marks " + width + ";first ";
            CHECKS.due("the least MARK", CHECKS.told(text + "0;").seal(0, 0), 1);
            CHECKS.due("the greatest MARK", CHECKS.told(text + (width - 1) + ";").seal(0, 0), 1 << width - 1);
            CHECKS.fault(text + width + ";", 4, text.length());
            StringBuilder all = new StringBuilder(text);
            for (int mark = width - 1; mark >= 0; mark--) {
                all.append(mark).append(' ');
            }
            CHECKS.due("all MARKS", CHECKS.told(all + ";").seal(0, 0), (1 << width) - 1);
            CHECKS.fault(all + "0;", 3, all.length());
            CHECKS.fault(all + "" + width + ";", 4, all.length());
        }
        CHECKS.fault("first 8;", 4, 6);
        CHECKS.due("first 7 of 8", CHECKS.told("first 7;").seal(0, 0), 128);
        CHECKS.due("not told", CHECKS.told("wax 5;").seal(0, 0), 0);
        CHECKS.due("not told behind told", again("first 3;", "wax 5;").seal(0, 0), 0);
        CHECKS.fault("first 0;first 1;", 2, 8);
        CHECKS.fault("first 0;wax 5;first", 2, 14);
        // MARKS beyond 31 are not those that their rest would be.
        CHECKS.fault("first 0 32;", 4, 8);
        CHECKS.fault("first 32;", 4, 6);
        CHECKS.fault("first 9999;", 4, 6);
    }

    private static String hand(String name) {
        return "hand " + name + " wears 0 fills 0;";
    }

    private static void hands() {
        CHECKS.sentence(0, "at most 4 HANDS, numbered as told");
        String four = hand("d") + hand("c") + hand("b") + hand("a");
        CHECKS.fine(hand("d"), 1, 2);
        CHECKS.fine(four, 4, 8);
        CHECKS.fine(four + "wax 5;draw 5;first 0;", 4, 8);
        CHECKS.fault(four + hand("e"), 2, four.length());
        CHECKS.fault(four + "wax 5; hand", 2, four.length() + 7);
        SealCasts x = CHECKS.told("marks 4;hand d wears 0 fills mark=3;hand a wears 0 fills mark=0;"
            + "hand c wears 0 fills mark=2;hand b wears 0 fills mark=1;");
        int[] rows = {8, 1, 4, 2};
        for (int hand = 0; hand < 4; hand++) {
            CHECKS.due("HAND " + hand, x.would(0, hand, 0, 0), rows[hand]);
        }
        CHECKS.due("HAND 4", x.would(0, 4, 0, 0), -1);
        SealCasts y = again(four, hand("a"));
        CHECKS.due("one behind four", y.about(0), 1);
        CHECKS.due("HAND 1 is none", y.would(0, 1, 0, 0), -1);
    }

    private static void waxAndDraw() {
        CHECKS.sentence(0, "wax (0 .. 999; 100), draw (0 .. 999; 0) once each");
        CHECKS.due("wax 0", CHECKS.told("wax 0;").about(4), 0);
        CHECKS.due("wax 999", CHECKS.told("wax 999;").about(4), 999);
        CHECKS.due("wax not told", CHECKS.told("draw 3;").about(4), 100);
        CHECKS.due("wax not told behind told", again("wax 3;", "draw 3;").about(4), 100);
        CHECKS.fault("wax 1000;", 4, 4);
        CHECKS.fault("wax 9999;", 4, 4);
        CHECKS.due("draw 0", CHECKS.told("draw 0;").about(6), 0);
        CHECKS.due("draw 999", CHECKS.told("draw 999;").about(6), 999);
        CHECKS.due("draw not told", CHECKS.told("wax 3;").about(6), 0);
        CHECKS.due("draw not told behind told", again("draw 3;", "wax 3;").about(6), 0);
        CHECKS.fault("draw 1000;", 4, 5);
        CHECKS.fault("draw 9999;", 4, 5);
        CHECKS.fault("wax 5;wax 5;", 2, 6);
        CHECKS.fault("draw 5;draw 5;", 2, 7);
        CHECKS.fault("wax 5;draw 5;wax", 2, 13);
        CHECKS.fault("draw 5;wax 5;draw", 2, 13);
    }

    private static String ones(int many) {
        return "1" + "+1".repeat(many - 1);
    }

    private static void unitsInAll() {
        CHECKS.sentence(0, "90 units in all");
        String sixty = "hand a wears " + ones(30) + " fills " + ones(30) + ";";
        String next = "hand b wears " + ones(29) + " fills ";
        int at = sixty.length() + next.length();
        CHECKS.fine(sixty, 1, 60);
        CHECKS.fine(sixty + next + "has;", 2, 90);
        CHECKS.fault(sixty + next + "has+1;", 2, at + 4);
        CHECKS.fault(sixty + next + "(1);", 2, at + 1);
        CHECKS.fault(sixty + next + "not not 1<many;", 2, at + 10);
        CHECKS.fine(sixty + next + "1;wax 9;first 0 1 2;draw 9;", 2, 90);
        // Those in all, not those of a HAND: four HANDS of 11, 11, ... and the last with two more.
        StringBuilder four = new StringBuilder();
        for (String name : new String[] {"a", "b", "c"}) {
            four.append("hand ").append(name).append(" wears ").append(ones(11)).append(" fills ").append(ones(11)).append(";");
        }
        four.append("hand d wears ").append(ones(12)).append(" fills ");
        CHECKS.fine(four + ones(12) + ";", 4, 90);
        CHECKS.fault(four + ones(13) + ";", 2, four.length() + 24);
    }

    private static void unitsInOne() {
        CHECKS.sentence(0, "30 in one e");
        CHECKS.fine("hand a wears " + ones(30) + " fills " + ones(30) + ";", 1, 60);
        CHECKS.fault("hand a wears " + ones(31) + " fills 1;", 2, 13 + 60);
        CHECKS.fault("hand a wears 1 fills " + ones(31) + ";", 2, 21 + 60);
        // However they are joined, and whatever they are.
        for (String sign : new String[] {" or ", " and ", "-", "*", "/", "%"}) {
            String e = "has" + (sign + "has").repeat(29);
            CHECKS.fine("hand a wears " + e + " fills 1;", 1, 31);
            CHECKS.fault("hand a wears " + e + sign + "has fills 1;", 2, 13 + e.length() + sign.length());
        }
        String relations = "1<1" + " and 1<1".repeat(14);
        CHECKS.fine("hand a wears " + relations + " fills 1;", 1, 31);
        CHECKS.fault("hand a wears " + relations + " and 1<1 fills 1;", 2, 13 + relations.length() + 5);
        // A unit ( e ) is one itself; those in it are of the same e around it.
        CHECKS.fine("hand a wears (" + ones(29) + ") fills 1;", 1, 31);
        CHECKS.fault("hand a wears (" + ones(30) + ") fills 1;", 2, 14 + 58);
        CHECKS.fine("hand a wears " + ones(14) + "+(" + ones(15) + ") fills 1;", 1, 31);
        CHECKS.fault("hand a wears " + ones(15) + "+(" + ones(15) + ") fills 1;", 2, 13 + 30 + 1 + 28);
        CHECKS.fault("hand a wears " + ones(30) + "+(1) fills 1;", 2, 13 + 60);
        CHECKS.fault("hand a wears (" + ones(28) + ")+1+1 fills 1;", 2, 14 + 55 + 4);
    }

    private static void nests() {
        CHECKS.sentence(0, "(a unit ( e ), or a one behind not, within 6 others at most)");
        for (int many = 1; many <= 12; many++) {
            String nested = "(".repeat(many) + "1" + ")".repeat(many);
            String negated = "not ".repeat(many) + "1";
            if (many <= 7) {
                CHECKS.fine("hand a wears " + nested + " fills " + nested + ";", 1, 2 * many + 2);
                CHECKS.fine("hand a wears " + negated + " fills " + negated + ";", 1, 2);
            } else {
                CHECKS.fault("hand a wears " + nested + " fills 1;", 2, 13 + 7);
                CHECKS.fault("hand a wears " + negated + " fills 1;", 2, 13 + 28);
            }
        }
        CHECKS.sentence(0, "what is within 7 others: at its first TOKEN, or the not");
        // Seven of both sorts, and an eighth of each sort.
        String seven = "not (not (not (not ";
        CHECKS.fine("hand a wears " + seven + "1))) fills 1;", 1, 5);
        CHECKS.fault("hand a wears " + seven + "(1)))) fills 1;", 2, 13 + seven.length());
        CHECKS.fault("hand a wears " + seven + "not 1))) fills 1;", 2, 13 + seven.length());
        String other = "(not (not (not (";
        CHECKS.fine("hand a wears " + other + "1)))) fills 1;", 1, 6);
        CHECKS.fault("hand a wears " + other + "(1))))) fills 1;", 2, 13 + other.length());
        CHECKS.fault("hand a wears " + other + "not 1)))) fills 1;", 2, 13 + other.length());
        // Beside one another they are not within one another.
        String deep = "(((((((1)))))))";
        CHECKS.fine("hand a wears " + deep + "+" + deep + " fills " + deep + ";", 1, 24);
        String nots = "not not not not not not not 1";
        CHECKS.fine("hand a wears " + nots + " and " + nots + " or " + nots + " fills (((((( " + "not 1 and (1)))))));", 1, 12);
        CHECKS.fine("hand a wears (((((((1)*(1))))))) fills 1;", 1, 11);
        CHECKS.fault("hand a wears (((((((1)*((1))))))) fills 1;", 2, 13 + 11);
    }

    private static void firstFaultByPlace() {
        CHECKS.sentence(0, "FAULTS, the first by its place");
        CHECKS.fault("wax ! ; marks 0;", 1, 4);
        CHECKS.fault("wax wax ! marks 0;", 2, 4);
        CHECKS.fault("marks 0 ! ;", 4, 6);
        CHECKS.fault("first 0 0 8 ! ;", 3, 8);
        CHECKS.fault("first 0 8 0 ! ;", 4, 8);
        CHECKS.fault("first 0 ! 0 8;", 1, 8);
        CHECKS.fault(hand("a") + "hand a wears ! fills 0;", 3, hand("a").length() + 5);
        CHECKS.fault("draw 1000 5a", 4, 5);
        CHECKS.fault("draw 5a 1000", 1, 5);
        // What stands wrong behind a line that can't begin there comes later.
        CHECKS.fault("wax 5;wax 1000;", 2, 6);
        CHECKS.fault("wax 5;wax !", 2, 6);
        CHECKS.fault("wax 5;marks 0;", 2, 6);
        CHECKS.fault("first 0;first 0 0;", 2, 8);
        CHECKS.fault("hand a wears " + ones(31) + " ! fills 0;", 2, 73);
        CHECKS.fault("hand a wears " + ones(30) + " ! fills 0;", 1, 73);
    }

    private static void placeOfTheEnd() {
        CHECKS.sentence(0, "the end: the text's length");
        CHECKS.fault("wax", 2, 3);
        CHECKS.fault("wax    ", 2, 7);
        CHECKS.fault("wax 5", 2, 5);
        CHECKS.fault("wax 5\n\n", 2, 7);
        CHECKS.fault(hand("a") + "hand", 2, hand("a").length() + 4);
        CHECKS.fault("hand a wears (((((((1", 2, 21);
        // The text ends where end(n) cut it.
        SealCasts x = new SealCasts();
        Checks.feedText(x, "wax 5;draw 7;");
        x.end(5);
        CHECKS.due("chancery()", x.chancery(), -1);
        CHECKS.due("fault(1)", x.fault(1), 5);
        // A word or an N that is cut ends there, whatever stood behind it on the TAPE.
        cut("firstx", 5, 2, 5);
        cut("first 0", 4, 2, 0);
        cut("marks 123", 8, 2, 8);
        cut("wax 5a", 5, 2, 5);
        cut("wax 12345", 8, 4, 4);
        cut("hand abcdefghi", 13, 2, 13);
        cut("wax 5;!", 6, 0, -1);
    }

    private static void cut(String text, int n, int fault, int place) {
        SealCasts x = new SealCasts();
        Checks.feedText(x, text);
        x.end(n);
        x.chancery();
        CHECKS.due("fault(0) of " + text + " cut at " + n, x.fault(0), fault);
        CHECKS.due("fault(1) of " + text + " cut at " + n, x.fault(1), place);
    }

    private static void leastAtOnePlace() {
        CHECKS.sentence(0, "at one place the least");
        // No TOKEN goes ahead of one that can't stand there, a NAME told already and a number that can't be.
        CHECKS.fault("!", 1, 0);
        CHECKS.fault("wax 5 !;", 1, 6);
        CHECKS.fault("marks 99999;", 1, 6);
        CHECKS.fault("wax 9999a;", 1, 4);
        CHECKS.fault("first 0 0a;", 1, 8);
        CHECKS.fault("hand a wears " + ones(30) + "+99999 fills 0;", 1, 73);
        CHECKS.fault("hand a wears (((((((abcdefghi fills 0;", 1, 20);
        // A line that can't begin goes ahead of what is told in it.
        String four = hand("a") + hand("b") + hand("c") + hand("d");
        CHECKS.fault(four + hand("a"), 2, four.length());
    }

    private static void noToken() {
        CHECKS.sentence(0, "1 no TOKEN");
        CHECKS.fault("!", 1, 0);
        CHECKS.fault(" \n!", 1, 2);
        CHECKS.fault("wax 5;\u00ff", 1, 6);
        CHECKS.fault("hand a wears 1 & 1 fills 0;", 1, 15);
        CHECKS.fault("hand a wears 1 <! fills 0;", 1, 16);
        CHECKS.fault("hand a, wears 0 fills 0;", 1, 6);
    }

    private static void cannotStandThere() {
        CHECKS.sentence(0, "2 one that can't stand there (one of a sort too many, a second time,");
        String four = hand("a") + hand("b") + hand("c") + hand("d");
        CHECKS.fault(four + "\n hand e", 2, four.length() + 2);
        CHECKS.fault("first 0;\nfirst 1;", 2, 9);
        CHECKS.fault("wax 0;\nwax 0;", 2, 7);
        CHECKS.fault("draw 0;\ndraw 0;", 2, 8);
        CHECKS.fault("marks 8;\nmarks 8;", 2, 9);
        CHECKS.sentence(0, "a unit too many, what is within 7 others: at its first TOKEN");
        CHECKS.fault("hand a wears " + ones(30) + "+ mark fills 0;", 2, 13 + 61);
        CHECKS.fault("hand a wears " + ones(30) + "+ (mark) fills 0;", 2, 13 + 61);
    }

    private static void toldAlready() {
        CHECKS.sentence(0, "3 a NAME of a HAND told already, a MARK told already");
        CHECKS.fault(hand("a") + hand("a"), 3, 28);
        CHECKS.fault(hand("a") + hand("b") + hand("a"), 3, 51);
        CHECKS.fault(hand("a") + hand("b") + hand("b"), 3, 51);
        CHECKS.fault(hand("a") + hand("b") + hand("c") + hand("c"), 3, 74);
        CHECKS.fine(hand("a") + hand("ab") + hand("ba") + hand("b"), 4, 8);
        // NAMES of a CHANCERY that was ahead are not told already.
        CHECKS.due("a again", again(hand("a") + hand("b"), hand("b") + hand("a")).about(0), 2);
        CHECKS.fault("first 0 0;", 3, 8);
        CHECKS.fault("first 7 0 7;", 3, 10);
        CHECKS.fault("first 7 007;", 3, 8);
        CHECKS.fine("first 7 0 6;", 0, 0);
    }

    private static void numberThatCannotBe() {
        CHECKS.sentence(0, "4 a number that can't be");
        CHECKS.fault("marks 0;", 4, 6);
        CHECKS.fault("marks 13;", 4, 6);
        CHECKS.fault("marks 5;first 5;", 4, 14);
        CHECKS.fault("marks 5;first 0 4 5;", 4, 18);
        CHECKS.fault("wax 1000;", 4, 4);
        CHECKS.fault("draw 1000;", 4, 5);
        CHECKS.fine("hand a wears 9999 fills 9999;", 1, 2);
    }

    // ---- Promises

    private static void newObject() {
        CHECKS.sentence(1, "`SealCasts()`: An empty CHANCERY.");
        SealCasts x = new SealCasts();
        int[] first = {0, 8, 1, 0, 100, 0, 0, 0, 0, 0, 0, 0, 0, 0};
        for (int what = 0; what < first.length; what++) {
            CHECKS.due("about(" + what + ")", x.about(what), first[what]);
        }
        int[] seal = {0, -1, -1, 0, 0};
        for (int what = 0; what < seal.length; what++) {
            CHECKS.due("seal(0, " + what + ")", x.seal(0, what), seal[what]);
        }
        CHECKS.due("seal(1, 0)", x.seal(1, 0), -1);
        CHECKS.due("shown(0, 0)", x.shown(0, 0), -1);
        CHECKS.due("would(0, 0, 0, 0)", x.would(0, 0, 0, 0), -1);
        CHECKS.due("undo()", x.undo(), false);
        CHECKS.due("redo()", x.redo(), false);
        CHECKS.due("untell(0)", x.untell(0), false);
        CHECKS.due("lies(0)", x.lies(0), -2);
        for (int box = 0; box < 3; box++) {
            CHECKS.due("back(" + box + ")", x.back(box), -1);
        }
        CHECKS.due("fault(0)", x.fault(0), 0);
        CHECKS.due("fault(1)", x.fault(1), -1);
        CHECKS.leavesAll("chancery() of nothing", SealCasts::new, SealCasts::chancery);
        // One object is nothing to another one.
        Busy.object();
        CHECKS.due("about(2) of another one", new SealCasts().about(2), 1);
    }

    private static void feed() {
        CHECKS.sentence(2, "Twenty bytes come behind those on the TAPE, of each number the highest first: how many there are");
        SealCasts x = new SealCasts();
        CHECKS.due("feed", x.feed(0x77617820, 0x39383b64, 0x72617720, 0x3736353b, 0x66697273), 20);
        CHECKS.due("feed", x.feed(0x74203720, 0x303b2020, 0x20202020, 0x20202020, 0x2020200a), 40);
        CHECKS.due("about(11)", x.about(11), 40);
        CHECKS.due("chancery()", x.chancery(), 0);
        CHECKS.due("wax", x.about(4), 98);
        CHECKS.due("draw", x.about(6), 765);
        CHECKS.due("first", x.seal(0, 0), 129);
        // Bytes above 127, alone and in each place of a number.
        for (int place = 0; place < 4; place++) {
            SealCasts y = new SealCasts();
            y.feed(0x20202020, 0x20202020 | 0xe9 << 24 - 8 * place, 0x20202020, 0x20202020, 0x20202020);
            CHECKS.due("chancery()", y.chancery(), -1);
            CHECKS.due("fault(0)", y.fault(0), 1);
            CHECKS.due("fault(1)", y.fault(1), 4 + place);
        }
        SealCasts z = new SealCasts();
        CHECKS.due("feed of -1", z.feed(-1, -1, -1, -1, -1), 20);
        CHECKS.due("feed of MIN", z.feed(MIN, MAX, 0, 0, 0), 40);
        CHECKS.due("chancery()", z.chancery(), -1);
        CHECKS.due("fault(1)", z.fault(1), 0);
    }

    private static void feedBeyond() {
        CHECKS.sentence(2, "NONE, and nothing comes, if there would be more than 1,600.");
        SealCasts x = new SealCasts();
        for (int i = 1; i <= 80; i++) {
            CHECKS.due("feed", x.feed(0x20202020, 0x20202020, 0x20202020, 0x20202020, 0x20202020), 20 * i);
        }
        CHECKS.due("feed to 1,620", x.feed(0, 0, 0, 0, 0), -1);
        CHECKS.due("about(11)", x.about(11), 1600);
        x.end(1581);
        CHECKS.due("feed to 1,601", x.feed(0, 0, 0, 0, 0), -1);
        CHECKS.due("about(11)", x.about(11), 1581);
        CHECKS.due("nothing came", x.chancery(), 0);
        CHECKS.leavesAll("feed of a full TAPE", Busy::withFullTape, y -> y.feed(-1, -1, -1, -1, -1));
        SealCasts z = Busy.withFullTape();
        z.end(1580);
        CHECKS.due("feed to 1,600", z.feed(0x3b3b3b3b, 0, 0, 0, 0), 1600);
        CHECKS.due("feed to 1,620", z.feed(0, 0, 0, 0, 0), -1);
        CHECKS.due("chancery()", z.chancery(), -1);
        CHECKS.due("fault(1)", z.fault(1), 1580);
    }

    private static void end() {
        CHECKS.sentence(3, "The TAPE has its first n bytes: n");
        SealCasts x = new SealCasts();
        CHECKS.due("end(0) of nothing", x.end(0), 0);
        Checks.feedText(x, "wax 5;draw 7;first 1");
        CHECKS.due("end(20)", x.end(20), 20);
        CHECKS.due("end(13)", x.end(13), 13);
        CHECKS.due("about(11)", x.about(11), 13);
        CHECKS.due("end(6)", x.end(6), 6);
        // What comes then comes behind them.
        Checks.feedText(x, "draw 9;");
        CHECKS.due("about(11)", x.about(11), 13);
        CHECKS.due("chancery()", x.chancery(), 0);
        CHECKS.due("wax", x.about(4), 5);
        CHECKS.due("draw", x.about(6), 9);
        Checks.feedText(x, "wax 5;");
        CHECKS.due("end(0)", x.end(0), 0);
        CHECKS.due("about(11)", x.about(11), 0);
        CHECKS.due("chancery()", x.chancery(), 0);
        CHECKS.due("nothing of it", x.about(4), 100);
    }

    private static void endRefused() {
        CHECKS.sentence(3, "NONE, doing nothing, if it has not so many, or n is below 0.");
        SealCasts x = new SealCasts();
        CHECKS.due("end(1) of nothing", x.end(1), -1);
        CHECKS.due("end(-1) of nothing", x.end(-1), -1);
        int on = Busy.object().about(11);
        for (int n : new int[] {on + 1, on + 20, 1600, 1601, -1, MIN, MAX}) {
            CHECKS.due("end(" + n + ")", Busy.object().end(n), -1);
            CHECKS.leavesAll("end(" + n + ")", Busy::object, y -> y.end(n));
        }
        CHECKS.due("end(1600) of 1,600", Busy.withFullTape().end(1600), 1600);
        CHECKS.due("end(1601) of 1,600", Busy.withFullTape().end(1601), -1);
        // What was cut off does not come back.
        SealCasts z = Busy.withFullTape();
        z.end(100);
        CHECKS.due("end(101)", z.end(101), -1);
        CHECKS.due("about(11)", z.about(11), 100);
    }

    private static void chanceryTakesTheTape() {
        CHECKS.sentence(4, "The TAPE (empty then) is the CHANCERY");
        SealCasts x = CHECKS.told("wax 5;" + hand("a") + hand("b"));
        CHECKS.due("about(11)", x.about(11), 0);
        CHECKS.due("end(1)", x.end(1), -1);
        CHECKS.due("chancery() of nothing", x.chancery(), 0);
        int[] first = {0, 8, 1, 0, 100, 0, 0, 0, 0, 0, 0, 0, 0, 0};
        for (int what = 0; what < first.length; what++) {
            CHECKS.due("about(" + what + ") then", x.about(what), first[what]);
        }
        CHECKS.sentence(4, "how many HANDS");
        String text = "";
        for (int hands = 0; hands <= 4; hands++) {
            SealCasts y = new SealCasts();
            Checks.feedText(y, text);
            CHECKS.due("chancery()", y.chancery(), hands);
            CHECKS.due("about(0)", y.about(0), hands);
            text += hand("x" + (char) ('a' + hands));
        }
    }

    private static void chanceryBeginsAnew() {
        CHECKS.sentence(4, "one SEAL, YEAR 0, no PRINTS, no ACTS are kept, no FACTS are, nothing lies there, BOXES are empty then");
        SealCasts x = Busy.object();
        for (int box = 0; box < 3; box++) {
            x.image(box);
        }
        CHECKS.due("chancery()", x.chancery(), 0);
        int[] want = {0, 8, 1, 0, 7, 0, 0, 0, 0, 0, 3, 0, 0, 0};
        for (int what = 0; what < want.length; what++) {
            CHECKS.due("about(" + what + ")", x.about(what), want[what]);
        }
        int[] seal = {32, -1, -1, 0, 0};
        for (int what = 0; what < seal.length; what++) {
            CHECKS.due("seal(0, " + what + ")", x.seal(0, what), seal[what]);
        }
        CHECKS.due("seal(1, 0)", x.seal(1, 0), -1);
        CHECKS.due("shown(0, 0)", x.shown(0, 0), -1);
        CHECKS.due("common(2)", x.common(2), 255);
        CHECKS.due("undo()", x.undo(), false);
        CHECKS.due("redo()", x.redo(), false);
        CHECKS.due("lies(0)", x.lies(0), -2);
        CHECKS.due("untell(1)", x.untell(1), false);
        CHECKS.due("falses", x.falses(99), 0);
        CHECKS.due("origin", x.origin(0, 99), 0);
        CHECKS.due("span", x.span(1, 2, 99), 1000);
        CHECKS.due("backward", x.backward(1, 99), -1);
        for (int box = 0; box < 3; box++) {
            CHECKS.due("back(" + box + ")", x.back(box), -1);
        }
        CHECKS.due("a FACT is number 0 again", x.sample(1, false), 0);
        CHECKS.due("a PRINT is number 0 again", x.print(0), 0);
        CHECKS.due("its YEAR", x.shown(0, 2), 0);
    }

    /** Whatever was told and done ahead of it, all is as if a CHANCERY were the first. */
    private static void oneChanceryBehindAnother() {
        CHECKS.sentence(4, "The TAPE (empty then) is the CHANCERY");
        String[] texts = {"", "wax 0;", "marks 3;first 1;", "draw 777;hand c wears 0 fills 1;",
            "marks 12;first 0 11;hand a wears many>6 fills many=0;hand b wears heat fills draw and year;wax 999;draw 999;",
            "marks 5;first 0 4;hand a wears 0 fills left;hand b wears 1 fills right;hand c wears mark fills 0;"
                + "hand d wears 0 fills heat=mark;draw 5;",
            "hand a wears " + ones(29) + "-29 fills " + ones(28) + "-28;hand b wears " + ones(27) + "-27 fills 1;",
            "marks 2;hand a wears draw fills draw=1;", "marks 2;hand a wears 0 fills heat=9;",
            "marks 2;hand a wears 1 fills not 0;", "marks 2;hand a wears 1 fills 0;",
            "marks 12;hand z wears many=12 fills many=1;hand a wears 0 fills year=0;"};
        for (String one : texts) {
            for (String two : texts) {
                for (String last : texts) {
                    SealCasts x = new SealCasts();
                    tellAndUse(x, one);
                    tellAndUse(x, two);
                    Checks.feedText(x, last);
                    x.chancery();
                    CHECKS.alike("told " + one + " and " + two + " ahead of " + last + ":", x, CHECKS.told(last));
                }
            }
        }
        // Whatever is asked first.
        for (int draw = 0; draw < 3; draw++) {
            SealCasts x = CHECKS.told("marks 2;hand a wears 0 fills 1;");
            x.would(0, 0, 0, 0);
            x.would(1, 0, 0, 0);
            Checks.feedText(x, "marks 2;hand a wears draw fills draw=1;");
            x.chancery();
            CHECKS.due("by draw " + draw, x.would(1, 0, 0, draw), new int[] {2, 1, 0}[draw]);
        }
        // A text with a FAULT between them is nothing to the next one.
        for (String wrong : new String[] {"marks 2;first 1;hand c wears 1 fills 1;wax", "hand a wears 1 fills ", "draw 3;wax 7;!"}) {
            for (String one : texts) {
                for (String last : texts) {
                    SealCasts x = new SealCasts();
                    tellAndUse(x, one);
                    Checks.feedText(x, wrong);
                    x.chancery();
                    x.end(0);
                    Checks.feedText(x, last);
                    x.chancery();
                    CHECKS.alike("told " + one + " and " + wrong + " ahead of " + last + ":", x, CHECKS.told(last));
                }
            }
        }
    }

    private static void tellAndUse(SealCasts x, String text) {
        Checks.feedText(x, text);
        x.chancery();
        for (int hand = 0; hand < 4; hand++) {
            for (int row : new int[] {0, 1, 3, (1 << x.about(1)) - 1}) {
                x.would(row, hand, 0, 0);
                x.would(row, hand, 3, 0);
                x.would(row, hand, 9, 0);
            }
            x.steady(hand, 0, 0);
            x.likely(0, hand, 0, 0);
            x.round(0, hand, 0, 0);
            x.cast(0, hand, 3);
        }
        x.print(0);
        x.image(0);
        x.sample(1, true);
        x.tell();
    }

    private static void chanceryKeepsTheTime() {
        CHECKS.sentence(4, "the TIME stays");
        SealCasts x = new SealCasts();
        x.later(1000);
        x.later(9);
        x.chancery();
        CHECKS.due("about(10)", x.about(10), 1009);
        x.sample(1, false);
        CHECKS.due("not known ahead of it", x.centre(0, 1008), -1);
        CHECKS.due("known then", x.centre(0, 1009), 0);
        CHECKS.due("later(1)", x.later(1), 1010);
    }

    private static void chanceryWithFault() {
        CHECKS.sentence(4, "NONE: a FAULT (all stays)");
        String[] texts = {"marks 13;", "marks 3;first 0;wax 1;draw 1;" + hand("a") + "hand a", "hand b wears 0 fills 0", "!",
            "marks 3;marks 3;", "hand a wears 1 fills 1;hand b wears 1 fills ;"};
        for (String text : texts) {
            SealCasts x = Busy.object();
            x.end(0);
            Checks.feedText(x, text);
            CHECKS.due("chancery() of " + text, x.chancery(), -1);
            CHECKS.due("bytes on the TAPE", x.about(11), text.length());
            CHECKS.due("the HANDS", x.about(0), 2);
            CHECKS.due("WIDTH", x.about(1), 4);
            CHECKS.due("units", x.about(12), Busy.object().about(12));
            // But for the FAULT, which is of the latest chancery(), all is as without it.
            CHECKS.leavesAll("chancery() with a FAULT", () -> {
                SealCasts y = Busy.withFault();
                y.end(0);
                return y;
            }, y -> {
                Checks.feedText(y, "draw 3;marks 4;");
                y.chancery();
                y.end(0);
            });
        }
        CHECKS.leavesAll("chancery() twice with one FAULT", Busy::withFault, SealCasts::chancery);
        // The TAPE can be mended.
        SealCasts z = new SealCasts();
        Checks.feedText(z, "wax");
        CHECKS.due("chancery()", z.chancery(), -1);
        Checks.feedText(z, " 5;");
        CHECKS.due("chancery() of the mended one", z.chancery(), 0);
        CHECKS.due("wax", z.about(4), 5);
    }

    private static void fault() {
        CHECKS.sentence(5, "Of the latest chancery() what 0: its FAULT (0), 1: its place (NONE).");
        SealCasts x = new SealCasts();
        CHECKS.due("fault(0) ahead of any", x.fault(0), 0);
        CHECKS.due("fault(1) ahead of any", x.fault(1), -1);
        String[] texts = {" !", "wax ;", "first 0 0;", "wax 1000;", "", "wax;", "wax 5;"};
        int[][] want = {{1, 1}, {2, 4}, {3, 8}, {4, 4}, {0, -1}, {2, 3}, {0, -1}};
        for (int i = 0; i < texts.length; i++) {
            x.end(0);
            Checks.feedText(x, texts[i]);
            x.chancery();
            CHECKS.due("fault(0) of " + texts[i], x.fault(0), want[i][0]);
            CHECKS.due("fault(1) of " + texts[i], x.fault(1), want[i][1]);
            x.feed(0, 0, 0, 0, 0);
            x.year();
            x.end(0);
            CHECKS.due("fault(0) then", x.fault(0), want[i][0]);
            CHECKS.due("fault(1) then", x.fault(1), want[i][1]);
        }
        SealCasts y = new SealCasts();
        y.feed(0, 0, 0, 0, 0);
        y.chancery();
        CHECKS.due("a FAULT at place 0", y.fault(1), 0);
    }

    private static void faultOfAnotherWhat() {
        CHECKS.sentence(5, "NONE for another what.");
        for (int what : new int[] {2, 3, -1, MIN, MAX}) {
            CHECKS.due("fault(" + what + ")", new SealCasts().fault(what), -1);
            CHECKS.due("fault(" + what + ") behind one", Busy.withFault().fault(what), -1);
        }
    }
}
