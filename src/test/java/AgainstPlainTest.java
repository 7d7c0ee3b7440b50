import java.util.ArrayList;
import java.util.List;
import java.util.Random;

/** Runs of drawn calls, on the class and on the plain model at once; every answer has to be the same. */
public final class AgainstPlainTest {
    private static final int RUNS = 1000;
    private static final int CALLS = 500;
    private static final String[] UNITS = {"mark", "has", "left", "right", "many", "year", "heat", "draw"};
    private static final String[] SCRAPS = {";", "(", ")", "<", ">", "=", "+", "-", "*", "/", "%", "or", "and", "not",
        "marks", "first", "hand", "wears", "fills", "wax", "draw", "mark", "12", "0", "9999", "12345", "7a", "!", "A",
        "abcdefgh", "abcdefghi", "\t", "\n", "\u000e", "\u00e9", "\u0000"};

    private final Random random;
    private final List<String> calls = new ArrayList<>();
    private final SealCasts real = new SealCasts();
    private final PlainSealCasts plain = new PlainSealCasts();
    private int wrong = 0;

    private AgainstPlainTest(long seed) {
        random = new Random(seed);
    }

    public static void main(String[] args) {
        int wrong = 0;
        for (int run = 0; run < RUNS && wrong < 5; run++) {
            wrong += new AgainstPlainTest(run).go(run) ? 0 : 1;
        }
        System.out.println("AgainstPlainTest: " + (wrong == 0 ? "as due" : wrong + " runs are not as due"));
        if (wrong != 0) {
            System.exit(1);
        }
    }

    private boolean go(int run) {
        tell(text());
        while (calls.size() < CALLS && wrong == 0) {
            step();
        }
        if (wrong != 0) {
            System.out.println("run " + run + ": " + String.join(" ", calls));
        }
        return wrong == 0;
    }

    private void due(String call, int got, int want) {
        calls.add(call + "=" + want);
        if (got != want) {
            wrong++;
            System.out.println(call + " answered " + got + ", the plain model " + want);
        }
    }

    private void due(String call, boolean got, boolean want) {
        due(call, got ? 1 : 0, want ? 1 : 0);
    }

    // ---- texts

    private int upTo(int most) {
        return random.nextInt(most + 1);
    }

    private boolean rarely(int oneIn) {
        return random.nextInt(oneIn) == 0;
    }

    private String text() {
        StringBuilder text = new StringBuilder();
        int width = rarely(3) ? 8 : 1 + upTo(rarely(12) ? 11 : 6);
        if (width != 8 || rarely(2)) {
            text.append("marks ").append(width).append(";");
        }
        List<String> lines = new ArrayList<>();
        int hands = rarely(10) ? 0 : 1 + upTo(rarely(4) ? 3 : 1);
        for (int hand = 0; hand < hands; hand++) {
            lines.add("hand " + (char) ('a' + hand) + "x wears " + anyFormula() + " fills " + anyFormula() + ";");
        }
        if (!rarely(4)) {
            StringBuilder first = new StringBuilder("first");
            int row = 1 + upTo((1 << width) - 2);
            for (int mark = 0; mark < width; mark++) {
                first.append((row >> mark & 1) != 0 ? " " + mark : "");
            }
            lines.add(first + ";");
        }
        if (!rarely(3)) {
            lines.add("wax " + upTo(rarely(6) ? 9 : 400) + ";");
        }
        if (rarely(2)) {
            lines.add("draw " + upTo(999) + ";");
        }
        java.util.Collections.shuffle(lines, random);
        text.append(String.join(rarely(3) ? " \n" : "", lines));
        if (rarely(calls.isEmpty() ? 40 : 2)) {
            spoil(text);
        }
        return text.toString();
    }

    private void spoil(StringBuilder text) {
        for (int i = upTo(2); i >= 0; i--) {
            int at = upTo(text.length());
            if (rarely(3) && at < text.length()) {
                text.deleteCharAt(at);
            } else if (rarely(4)) {
                text.setLength(at);
            } else {
                text.insert(at, SCRAPS[random.nextInt(SCRAPS.length)]);
            }
        }
    }

    private String anyFormula() {
        return rarely(2) ? formula(3) : mixed();
    }

    /** Formulas of everything at once, by which ROWS go far before they come round. */
    private String mixed() {
        StringBuilder sum = new StringBuilder("" + upTo(9));
        for (String unit : UNITS) {
            if (rarely(2)) {
                sum.append(rarely(4) ? "-" : "+").append(unit).append("*").append(1 + upTo(6));
            }
        }
        int by = 2 + upTo(3);
        return "(" + sum + ")%" + by + (rarely(2) ? "<" : "=") + upTo(by - 1);
    }

    private String formula(int deep) {
        if (deep == 0 || rarely(3)) {
            return rarely(3) ? "" + (rarely(5) ? upTo(9999) : upTo(6)) : UNITS[random.nextInt(UNITS.length)];
        }
        switch (random.nextInt(9)) {
            case 0: return "not " + formula(deep - 1);
            case 1: return "(" + formula(deep - 1) + ")";
            case 2: return formula(deep - 1) + " and " + formula(deep - 1);
            case 3: return formula(deep - 1) + " or " + formula(deep - 1);
            case 4: return "(" + formula(deep - 1) + ")" + "+-*/%".charAt(random.nextInt(5)) + "(" + formula(deep - 1) + ")";
            case 5: return "(" + formula(deep - 1) + ")" + "<>=".charAt(random.nextInt(3)) + "(" + formula(deep - 1) + ")";
            default: return formula(deep - 1) + "+-*/%<>=".charAt(random.nextInt(8)) + formula(deep - 1);
        }
    }

    private void tell(String text) {
        int length = text.length();
        StringBuilder padded = new StringBuilder(text);
        while (padded.length() % 20 != 0) {
            padded.append(' ');
        }
        int before = plain.about(11);
        for (int at = 0; at < padded.length(); at += 20) {
            int[] n = new int[5];
            for (int i = 0; i < 20; i++) {
                n[i / 4] = n[i / 4] << 8 | padded.charAt(at + i) & 255;
            }
            due("feed", real.feed(n[0], n[1], n[2], n[3], n[4]), plain.feed(n[0], n[1], n[2], n[3], n[4]));
        }
        due("end(" + (before + length) + ")", real.end(before + length), plain.end(before + length));
        due("chancery[" + text + "]", real.chancery(), plain.chancery());
        due("fault(0)", real.fault(0), plain.fault(0));
        due("fault(1)", real.fault(1), plain.fault(1));
        if (plain.fault(0) != 0 && !rarely(4)) {
            due("end(0)", real.end(0), plain.end(0));
        }
    }

    // ---- arguments: mostly such as can be, now and then beside it

    private int drawn(int most) {
        if (rarely(25)) {
            return new int[] {-1, most + 1, -2, Integer.MIN_VALUE, Integer.MAX_VALUE, most + 2}[random.nextInt(6)];
        }
        return most < 0 ? 0 : upTo(most);
    }

    private int row() {
        if (rarely(2)) {
            int seal = upTo(plain.about(2) - 1);
            int row = plain.seal(seal, 0);
            row = rarely(2) ? plain.turned(row) : row;
            if (rarely(2) && plain.about(0) > 0) {
                row = plain.would(row, upTo(plain.about(0) - 1), upTo(3), 0);
            }
            return rarely(4) ? row ^ 1 << upTo(plain.about(1) - 1) : row;
        }
        return drawn((1 << plain.about(1)) - 1);
    }

    private int seal() {
        return drawn(plain.about(2) - 1);
    }

    private int hand() {
        return drawn(plain.about(0) - 1);
    }

    private int heat() {
        return drawn(9);
    }

    private int k() {
        return rarely(4) ? drawn(plain.about(10)) : plain.about(10);
    }

    private void lying() {
        due("about(13)", real.about(13), plain.about(13));
        for (int i = -1; i <= plain.about(13); i++) {
            due("lies(" + i + ")", real.lies(i), plain.lies(i));
        }
    }

    private void step() {
        switch (random.nextInt(6)) {
            case 0: case 1: act(); break;
            case 2: ask(); break;
            case 3: askFar(); break;
            case 4: fact(); break;
            default: askFacts(); break;
        }
        if (rarely(60)) {
            for (int what = -1; what <= 14; what++) {
                due("about(" + what + ")", real.about(what), plain.about(what));
            }
        }
        if (rarely(150)) {
            tell(text());
        }
    }

    private void act() {
        int s = seal();
        int h = hand();
        int t = rarely(5) ? heat() : upTo(2);
        int m = drawn(plain.about(1) - 1);
        int what = drawn(4);
        switch (random.nextInt(15)) {
            case 0: case 1: case 2: case 12: case 13:
                due("cast(" + s + "," + h + "," + t + ")", real.cast(s, h, t), plain.cast(s, h, t)); break;
            case 3: case 4: due("print(" + s + ")", real.print(s), plain.print(s)); break;
            case 5: due("crack(" + s + "," + m + ")", real.crack(s, m), plain.crack(s, m)); break;
            case 6: due("year()", real.year(), plain.year()); break;
            case 7: due("undo()", real.undo(), plain.undo()); break;
            case 8: due("redo()", real.redo(), plain.redo()); break;
            case 9: boxed(); break;
            case 10: due("seal(" + s + "," + what + ")", real.seal(s, what), plain.seal(s, what)); break;
            default:
                int p = drawn(plain.about(3) - 1);
                due("shown(" + p + "," + what + ")", real.shown(p, what), plain.shown(p, what)); break;
        }
    }

    private void boxed() {
        int box = drawn(2);
        if (rarely(4)) {
            due("back(" + box + ")", real.back(box), plain.back(box));
        } else if (rarely(4)) {
            due("image(" + box + ")", real.image(box), plain.image(box));
        }
        // Many in a row, so that more are done or undone than are kept.
        if (rarely(150)) {
            boolean isBack = rarely(2);
            for (int i = 0; i < 45; i++) {
                if (isBack) {
                    due("undo()", real.undo(), plain.undo());
                } else {
                    due("year()", real.year(), plain.year());
                }
            }
        }
    }

    private void ask() {
        int s = seal();
        int o = seal();
        int h = hand();
        int t = heat();
        int r = row();
        int what = drawn(2);
        boolean is = rarely(2);
        int d = drawn(99);
        int n = drawn(4);
        switch (random.nextInt(16)) {
            case 0: due("prints(" + r + "," + what + ")", real.prints(r, what), plain.prints(r, what)); break;
            case 1: due("turned(" + r + ")", real.turned(r), plain.turned(r)); break;
            case 2: due("would(" + r + "," + h + "," + t + "," + d + ")", real.would(r, h, t, d), plain.would(r, h, t, d)); break;
            case 3: due("whose(" + s + "," + t + "," + r + ")", real.whose(s, t, r), plain.whose(s, t, r)); break;
            case 4: due("made(" + r + "," + d % 13 + ")", real.made(r, d % 13), plain.made(r, d % 13)); break;
            case 5: due("apart(" + s + "," + o + "," + is + ")", real.apart(s, o, is), plain.apart(s, o, is)); break;
            case 6: due("heats(" + s + "," + h + "," + r + ")", real.heats(s, h, r), plain.heats(s, h, r)); break;
            case 7: due("kin(" + s + "," + o + "," + what + ")", real.kin(s, o, what), plain.kin(s, o, what)); break;
            case 8: case 9:
                int m = drawn(plain.about(1) - 1);
                due("thumb(" + s + "," + m + ")", real.thumb(s, m), plain.thumb(s, m)); break;
            case 10: case 11:
                due("share(" + r + "," + n + "," + what + ")", real.share(r, n, what), plain.share(r, n, what)); break;
            case 12: due("nearest(" + r + "," + what + ")", real.nearest(r, what), plain.nearest(r, what)); break;
            case 13: due("common(" + what + ")", real.common(what), plain.common(what)); break;
            case 14: due("alike(" + r + "," + is + ")", real.alike(r, is), plain.alike(r, is)); break;
            default: due("tell()", real.tell(), plain.tell()); lying(); break;
        }
    }

    private void askFar() {
        int s = seal();
        int h = hand();
        int t = heat();
        int r = row();
        int what = drawn(1);
        String cast = "(" + s + "," + h + "," + t + ",";
        // The plain model tries all there is, which wide ROWS and many HANDS make too slow to do often.
        boolean isWide = plain.about(1) > 8;
        switch (isWide && !rarely(30) ? random.nextInt(4) : random.nextInt(8)) {
            case 0: due("luck" + cast + r + ")", real.luck(s, h, t, r), plain.luck(s, h, t, r)); break;
            case 1: due("likely" + cast + what + ")", real.likely(s, h, t, what), plain.likely(s, h, t, what)); break;
            case 2: due("fades" + cast + ")", real.fades(s, h, t), plain.fades(s, h, t)); break;
            case 3: due("round" + cast + what + ")", real.round(s, h, t, what), plain.round(s, h, t, what)); break;
            case 4: due("forge" + cast + r + "," + what + ")", real.forge(s, h, t, r, what), plain.forge(s, h, t, r, what)); break;
            case 5: due("steady(" + h + "," + t + "," + what + ")", real.steady(h, t, what), plain.steady(h, t, what)); break;
            case 6:
                int o = hand();
                due("against(" + h + "," + o + "," + t + ")", real.against(h, o, t), plain.against(h, o, t)); break;
            default:
                if (plain.about(0) < 3 || rarely(25)) {
                    due("wax(" + r + ")", real.wax(r), plain.wax(r));
                    lying();
                }
                break;
        }
    }

    private void fact() {
        int r = row();
        int s = seal();
        boolean is = rarely(2);
        int y = drawn(rarely(2) ? 999 : 9);
        switch (random.nextInt(9)) {
            case 0: case 1: due("sample(" + r + "," + is + ")", real.sample(r, is), plain.sample(r, is)); break;
            case 2:
                int shown = rarely(3) ? r : plain.turned(plain.seal(upTo(plain.about(2) - 1), 0));
                due("claim(" + shown + "," + s + "," + y + ")", real.claim(shown, s, y), plain.claim(shown, s, y)); break;
            case 3:
                int m = drawn(plain.about(1) - 1);
                boolean isEarly = y < 5 || y < 400;
                due("saw(" + m + "," + y + "," + isEarly + ")", real.saw(m, y, isEarly), plain.saw(m, y, isEarly)); break;
            case 4:
                int p = drawn(7);
                int o = drawn(7);
                boolean odd = rarely(30) != ((p ^ o) % 2 != 0);
                due("link(" + p + "," + o + "," + odd + ")", real.link(p, o, odd), plain.link(p, o, odd)); break;
            case 5:
                int f = drawn(plain.about(9) - 1);
                due("untell(" + f + ")", real.untell(f), plain.untell(f)); break;
            default:
                int by = drawn(rarely(6) ? 1000 : 3);
                due("later(" + by + ")", real.later(by), plain.later(by)); break;
        }
    }

    private void askFacts() {
        int k = k();
        int what = drawn(1);
        switch (random.nextInt(7)) {
            case 0:
                int root = drawn(6);
                due("tree(" + root + "," + what + "," + k + ")", real.tree(root, what, k), plain.tree(root, what, k));
                lying(); break;
            case 1: due("centre(" + what + "," + k + ")", real.centre(what, k), plain.centre(what, k)); break;
            case 2:
                int m = rarely(3) ? drawn(24) : upTo(6);
                due("clans(" + m + "," + what + "," + k + ")", real.clans(m, what, k), plain.clans(m, what, k)); break;
            case 3: due("origin(" + what + "," + k + ")", real.origin(what, k), plain.origin(what, k)); break;
            case 4: due("falses(" + k + ")", real.falses(k), plain.falses(k)); lying(); break;
            case 5:
                int mark = drawn(plain.about(1) - 1);
                int w = drawn(2);
                due("span(" + mark + "," + w + "," + k + ")", real.span(mark, w, k), plain.span(mark, w, k)); break;
            default:
                int p = drawn(7);
                due("backward(" + p + "," + k + ")", real.backward(p, k), plain.backward(p, k)); break;
        }
    }
}
