/** Promises 1 to 5: the TAPE, the CHANCERY and its FAULTS. */
public final class TextPromisesTest {
    private static final Checks CHECKS = new Checks("TextPromisesTest");

    public static void main(String[] args) {
        newObject();
        tape();
        grammar();
        tokens();
        lines();
        numbers();
        nests();
        units();
        values();
        anew();
        CHECKS.end();
    }

    private static void newObject() {
        SealCasts x = new SealCasts();
        int[] first = {0, 8, 1, 0, 100, 0, 0, 0, 0, 0, 0, 0, 0, 0};
        for (int what = 0; what < first.length; what++) {
            CHECKS.due(1, "about(" + what + ")", x.about(what), first[what]);
        }
        CHECKS.due(1, "seal(0, 0)", x.seal(0, 0), 0);
        CHECKS.due(1, "back(0)", x.back(0), -1);
        CHECKS.due(5, "fault(0)", x.fault(0), 0);
        CHECKS.due(5, "fault(1)", x.fault(1), -1);
        CHECKS.due(5, "fault(2)", x.fault(2), -1);
        CHECKS.due(5, "fault(-1)", x.fault(-1), -1);
    }

    private static void tape() {
        SealCasts x = new SealCasts();
        for (int i = 1; i <= 80; i++) {
            CHECKS.due(2, "feed", x.feed(0x20202020, 0x20202020, 0x20202020, 0x20202020, 0x20202020), 20 * i);
        }
        CHECKS.due(2, "feed beyond 1,600", x.feed(0, 0, 0, 0, 0), -1);
        CHECKS.due(2, "about(11)", x.about(11), 1600);
        CHECKS.due(3, "end(1601)", x.end(1601), -1);
        CHECKS.due(3, "end(-1)", x.end(-1), -1);
        CHECKS.due(3, "end(1600)", x.end(1600), 1600);
        CHECKS.due(3, "end(1581)", x.end(1581), 1581);
        CHECKS.due(2, "feed to 1,601", x.feed(0, 0, 0, 0, 0), -1);
        CHECKS.due(3, "end(1582)", x.end(1582), -1);
        CHECKS.due(3, "end(1580)", x.end(1580), 1580);
        CHECKS.due(2, "feed to 1,600", x.feed(0x77617820, 0x353b2020, 0x20202020, 0x20202020, 0x20202020), 1600);
        CHECKS.due(4, "chancery()", x.chancery(), 0);
        CHECKS.due(4, "about(4)", x.about(4), 5);
        CHECKS.due(4, "about(11)", x.about(11), 0);
        CHECKS.due(3, "end(0)", x.end(0), 0);
        CHECKS.due(4, "chancery() of nothing", x.chancery(), 0);
        CHECKS.due(4, "about(4)", x.about(4), 100);
        // Of each number the highest byte comes first.
        CHECKS.due(2, "feed", x.feed(0x6d61726b, 0x7320333b, 0x77617820, 0x373b2020, 0x20202020), 20);
        CHECKS.due(4, "chancery()", x.chancery(), 0);
        CHECKS.due(4, "about(1)", x.about(1), 3);
        CHECKS.due(4, "about(4)", x.about(4), 7);
    }

    private static void grammar() {
        CHECKS.fine("", 0, 0);
        CHECKS.fine(" \n ", 0, 0);
        CHECKS.fine("marks 12;first 11 0;hand a wears 0 fills 1;wax 0;draw 999;", 1, 2);
        CHECKS.fine("draw0;wax999;hand b wears(mark)fills not has<1;first 7;", 1, 4);
        CHECKS.fine("hand a wears 1+2*3-4/5%6 fills 1<2 and 3>4 or not 5=6;", 1, 12);
        CHECKS.fine("hand a wears not not has fills (not has)<(1 or 0);", 1, 6);
        CHECKS.fault("x", 2, 0);
        CHECKS.fault(";", 2, 0);
        CHECKS.fault(" wears", 2, 1);
        CHECKS.fault("marks", 2, 5);
        CHECKS.fault("marks  ", 2, 7);
        CHECKS.fault("marks;", 2, 5);
        CHECKS.fault("marks 4 5;", 2, 8);
        CHECKS.fault("marks 4", 2, 7);
        CHECKS.fault("first;", 2, 5);
        CHECKS.fault("first 0 a;", 2, 8);
        CHECKS.fault("first 0", 2, 7);
        CHECKS.fault("wax wax;", 2, 4);
        CHECKS.fault("hand;", 2, 4);
        CHECKS.fault("hand 5 wears 0 fills 0;", 2, 5);
        CHECKS.fault("hand draw wears 0 fills 0;", 2, 5);
        CHECKS.fault("hand or wears 0 fills 0;", 2, 5);
        CHECKS.fault("hand a fills 0 wears 0;", 2, 7);
        CHECKS.fault("hand a wears fills 0;", 2, 13);
        CHECKS.fault("hand a wears 0;", 2, 14);
        CHECKS.fault("hand a wears 0 fills ;", 2, 21);
        CHECKS.fault("hand a wears 0 fills 0", 2, 22);
        CHECKS.fault("hand a wears 1<2<3 fills 0;", 2, 16);
        CHECKS.fault("hand a wears 1+not 2 fills 0;", 2, 15);
        CHECKS.fault("hand a wears 1<not 2 fills 0;", 2, 15);
        CHECKS.fault("hand a wears -1 fills 0;", 2, 13);
        CHECKS.fault("hand a wears (1 fills 0;", 2, 16);
        CHECKS.fault("hand a wears 1) fills 0;", 2, 14);
        CHECKS.fault("hand a wears () fills 0;", 2, 14);
        CHECKS.fault("hand a wears 1 2 fills 0;", 2, 15);
        CHECKS.fault("hand a wears b fills 0;", 2, 13);
        CHECKS.fault("hand a wears marks fills 0;", 2, 13);
        CHECKS.fault("hand a wears wax fills 0;", 2, 13);
    }

    private static void tokens() {
        CHECKS.fault("Marks 4;", 1, 0);
        CHECKS.fault("marks\t4;", 1, 5);
        CHECKS.fault("marks\r4;", 1, 5);
        CHECKS.fault("marks 4!", 1, 7);
        CHECKS.fault("marks 4;\u00e9", 1, 8);
        CHECKS.fault("marks 4;\u0000", 1, 8);
        CHECKS.fault("hand a wears 1\u000e1 fills 0;", 1, 14);
        CHECKS.fault("hand a wears 1\u000f1 fills 0;", 1, 14);
        CHECKS.fine("marks 0008;", 0, 0);
        CHECKS.fault("marks 00008;", 1, 6);
        CHECKS.fault("wax 1000;", 4, 4);
        CHECKS.fault("wax 10000;", 1, 4);
        CHECKS.fault("wax 5a;", 1, 4);
        CHECKS.fault("hand a wears 0fills 0;", 1, 13);
        CHECKS.fine("hand abcdefgh wears 0 fills 9999;", 1, 2);
        CHECKS.fine("hand az wears 0 fills 0;hand zzzzzzzz wears 0 fills 0;hand ba wears 0 fills 0;", 3, 6);
        CHECKS.fault("hand abcdefghi wears 0 fills 0;", 1, 5);
        CHECKS.fault("marksmarks 4;", 1, 0);
        CHECKS.fault("markss 4;", 2, 0);
        // A FAULT that comes first by its place counts, whatever stands behind it.
        CHECKS.fault("marks 99 ! ;", 4, 6);
        CHECKS.fault("wax ; !", 2, 4);
    }

    private static void lines() {
        CHECKS.fault("marks 4;marks 4;", 2, 8);
        CHECKS.fault("wax 1;marks 4;", 2, 6);
        CHECKS.fault("first 0;first 1;", 2, 8);
        CHECKS.fault("wax 1; wax 1;", 2, 7);
        CHECKS.fault("draw 1;draw", 2, 7);
        String hands = "hand a wears 0 fills 0;hand b wears 0 fills 0;hand c wears 0 fills 0;hand d wears 0 fills 0;";
        CHECKS.fine(hands, 4, 8);
        CHECKS.fault(hands + "hand a wears 0 fills 0;", 2, hands.length());
        CHECKS.fault("hand a wears 0 fills 0;hand a wears", 3, 28);
        CHECKS.fault("hand ab wears 0 fills 0;hand b wears 0 fills 0;hand ab", 3, 52);
        CHECKS.fault("first 0 1 0;", 3, 10);
        CHECKS.fault("first 0 0", 3, 8);
        CHECKS.fault("first 0 00", 3, 8);
    }

    private static void numbers() {
        CHECKS.fault("marks 0;", 4, 6);
        CHECKS.fault("marks 13;", 4, 6);
        CHECKS.fine("marks 1;first 0;", 0, 0);
        CHECKS.fault("first 8;", 4, 6);
        CHECKS.fault("marks 1;first 1;", 4, 14);
        CHECKS.fault("marks 12;first 11 12;", 4, 18);
        CHECKS.fault("draw 1000;", 4, 5);
        CHECKS.fine("first 0 1 2 3 4 5 6 7;", 0, 0);
        CHECKS.fault("first 0 1 2 3 4 5 6 7 7;", 3, 22);
        CHECKS.fine("marks 12;first 0 1 2 3 4 5 6 7 8 9 10 11;", 0, 0);
        CHECKS.fault("marks 12;first 0 1 2 3 4 5 6 7 8 9 10 11 0;", 3, 41);
        CHECKS.fault("marks 12;first 0 1 2 3 4 5 6 7 8 9 10 11 12;", 4, 41);
        CHECKS.due(4, "first 2 5", CHECKS.told("first 2 5;").seal(0, 0), 36);
        CHECKS.due(4, "draw 999", CHECKS.told("draw 999;").about(6), 999);
    }

    private static void nests() {
        CHECKS.fine("hand a wears (((((((1))))))) fills 0;", 1, 9);
        CHECKS.fault("hand a wears ((((((((1)))))))) fills 0;", 2, 20);
        CHECKS.fine("hand a wears not not not not not not not 1 fills 0;", 1, 2);
        CHECKS.fault("hand a wears not not not not not not not not 1 fills 0;", 2, 41);
        CHECKS.fine("hand a wears not (not (not (not 1))) fills 0;", 1, 5);
        CHECKS.fault("hand a wears not (not (not (not (1)))) fills 0;", 2, 32);
        CHECKS.fault("hand a wears (not (not (not (not 1)))) fills 0;", 2, 29);
        CHECKS.fine("hand a wears (1)+(1)+(1)+(1)+(1)+(1)+(1)+(1) fills 0;", 1, 17);
        CHECKS.fine("hand a wears not 1 and not 1 and not 1 and not 1 and not 1 and not 1 and not 1 and not 1 fills 0;", 1, 9);
    }

    private static String ones(int many) {
        StringBuilder sum = new StringBuilder("1");
        for (int i = 1; i < many; i++) {
            sum.append("+1");
        }
        return sum.toString();
    }

    private static void units() {
        CHECKS.fine("hand a wears " + ones(30) + " fills " + ones(30) + ";", 1, 60);
        CHECKS.fault("hand a wears " + ones(31) + " fills 0;", 2, 13 + 60);
        CHECKS.fault("hand a wears 0 fills " + ones(31) + ";", 2, 21 + 60);
        // A unit ( e ) is one itself, ahead of those in it.
        CHECKS.fine("hand a wears " + ones(28) + "+(1) fills 0;", 1, 31);
        CHECKS.fault("hand a wears " + ones(29) + "+(1) fills 0;", 2, 13 + 59);
        CHECKS.fault("hand a wears " + ones(30) + "+(1) fills 0;", 2, 13 + 60);
        CHECKS.fault("hand a wears (" + ones(30) + ") fills 0;", 2, 14 + 58);
        String two = "hand a wears " + ones(30) + " fills " + ones(30) + ";";
        CHECKS.fine(two + "hand b wears " + ones(29) + " fills 0;", 2, 90);
        CHECKS.fault(two + "hand b wears " + ones(30) + " fills 0;", 2, two.length() + 13 + 59 + 7);
        CHECKS.fault(two + "hand b wears " + ones(29) + " fills not (0);", 2, two.length() + 13 + 57 + 7 + 4 + 1);
    }

    private static void value(String formula, int want) {
        SealCasts x = CHECKS.told("marks 1;hand a wears 0 fills (" + formula + ")=" + Math.abs(want) + ";"
            + "hand b wears 0 fills (0-(" + formula + "))=" + Math.abs(want) + ";");
        CHECKS.due(10, formula, x.would(0, want < 0 ? 1 : 0, 0, 0), 1);
    }

    private static void values() {
        value("1+2*3", 7);
        value("(1+2)*3", 9);
        value("7-2-1", 4);
        value("100/7/2", 7);
        value("100%7*10", 20);
        value("2*3%4", 2);
        value("(0-7)/2", -3);
        value("(0-7)%4", -3);
        value("5/0", 0);
        value("5%0", 0);
        value("1<2", 1);
        value("2<2", 0);
        value("2>2", 0);
        value("3>2", 1);
        value("3=3", 1);
        value("5 and 2", 1);
        value("5 and 0", 0);
        value("0 or 7", 1);
        value("0 or 0", 0);
        value("not 7", 0);
        value("not 0", 1);
        value("not 1<0", 1);
        value("not 0 and 0", 0);
        value("1 or 1 and 0", 1);
        value("1+1=2 and 1<2", 1);
        value("6", 6);
        value("not not 6", 1);
        // 9999^3 wraps.
        value("9999*9999*9999%1000", (int) (9999L * 9999 * 9999) % 1000);
        value("(9999*9999*9999)/9999/100", (int) (9999L * 9999 * 9999) / 9999 / 100);
    }

    private static void anew() {
        SealCasts x = CHECKS.told("first 0;hand a wears 0 fills 0;");
        x.cast(0, 0, 0);
        x.print(1);
        x.year();
        x.sample(1, false);
        x.image(0);
        x.image(1);
        x.image(2);
        x.later(7);
        x.tell();
        x.wax(1);
        Checks.feedText(x, "marks 3;wax");
        CHECKS.due(4, "chancery()", x.chancery(), -1);
        int[] before = {1, 8, 2, 1, 98, 1, 71, 3, 0, 1, 7, 11, 2, 1};
        for (int what = 0; what < before.length; what++) {
            CHECKS.due(4, "about(" + what + ") behind a FAULT", x.about(what), before[what]);
        }
        CHECKS.due(4, "would behind a FAULT", x.would(1, 0, 0, 0), 128);
        CHECKS.due(50, "back behind a FAULT", x.back(1), 2);
        x.end(0);
        x.year();
        Checks.feedText(x, "marks 3;first 1;draw 9;");
        CHECKS.due(4, "chancery()", x.chancery(), 0);
        CHECKS.due(5, "fault(0)", x.fault(0), 0);
        CHECKS.due(5, "fault(1)", x.fault(1), -1);
        int[] after = {0, 3, 1, 0, 100, 0, 9, 0, 0, 0, 7, 0, 0, 0};
        for (int what = 0; what < after.length; what++) {
            CHECKS.due(4, "about(" + what + ")", x.about(what), after[what]);
        }
        CHECKS.due(4, "seal(0, 0)", x.seal(0, 0), 2);
        CHECKS.due(4, "undo()", x.undo(), false);
        for (int box = 0; box < 3; box++) {
            CHECKS.due(4, "back(" + box + ")", x.back(box), -1);
        }
        CHECKS.due(40, "untell(0)", x.untell(0), false);
        // What a HAND did by one CHANCERY is nothing to that of the next.
        SealCasts y = CHECKS.told("marks 3;first 0;hand a wears 0 fills many=1;");
        CHECKS.due(10, "by the one", y.would(1, 0, 0, 0), 7);
        Checks.feedText(y, "marks 3;first 0;hand a wears 0 fills 0;");
        CHECKS.due(4, "chancery()", y.chancery(), 1);
        CHECKS.due(10, "by the other", y.would(1, 0, 0, 0), 4);
        Checks.feedText(y, "marks 3;first 0;hand a wears many fills 0;");
        CHECKS.due(4, "chancery()", y.chancery(), 1);
        CHECKS.due(10, "by the third", y.would(1, 0, 0, 0), 0);
    }
}
