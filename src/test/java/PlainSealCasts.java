import java.util.ArrayList;
import java.util.Arrays;
import java.util.HashMap;
import java.util.HashSet;
import java.util.List;
import java.util.Map;
import java.util.Set;
import java.util.regex.Matcher;
import java.util.regex.Pattern;

/**
 * The document once more, as plainly as it can be written and with no thought of speed: formulas are trees of
 * lambdas, undo keeps whole copies, and every "fewest" and "first" is found by trying all. It shares no code
 * with the class, so that what both answer alike is likely what the document says.
 */
final class PlainSealCasts {
    static final int NONE = -1;

    interface Formula { int of(Map<String, Integer> now); }

    record Hand(String name, Formula wears, Formula fills) { }
    record Seal(int row, int of, int hand, int year) { }
    record Print(int row, int seal, int year) { }
    record Fact(String sort, int[] told, boolean is, int at) { }

    static final class State {
        List<Seal> seals = new ArrayList<>();
        List<Print> prints = new ArrayList<>();
        int wax;
        int year;
        int seed;

        State copy() {
            State other = new State();
            other.seals.addAll(seals);
            other.prints.addAll(prints);
            other.wax = wax;
            other.year = year;
            other.seed = seed;
            return other;
        }
    }

    static final class Fault extends RuntimeException {
        private static final long serialVersionUID = 1;
        final int kind;
        final int place;

        Fault(int kind, int place) {
            this.kind = kind;
            this.place = place;
        }
    }

    /** One reading of a text. */
    static final class Text {
        static final Set<String> OWN = new HashSet<>(Arrays.asList("marks", "first", "hand", "wears", "fills", "wax",
            "draw", "or", "and", "not", "mark", "has", "left", "right", "many", "year", "heat"));
        static final Set<String> UNITS = new HashSet<>(Arrays.asList("mark", "has", "left", "right", "many", "year",
            "heat", "draw"));
        static final Pattern TOKEN = Pattern.compile("([a-z]+)|([0-9]+)(?![a-z0-9])|[;()<>=+\\-*/%]");

        final String text;
        final List<Hand> hands = new ArrayList<>();
        int width = 8;
        int first = 0;
        int wax = 100;
        int draw = 0;
        int units = 0;
        private int at = 0;
        private int unitsInOne;

        Text(String text) {
            this.text = text;
        }

        private int place() {
            while (at < text.length() && (text.charAt(at) == ' ' || text.charAt(at) == '\n')) {
                at++;
            }
            return at;
        }

        /** The TOKEN at hand, empty at the end. */
        private String token() {
            int place = place();
            if (place == text.length()) {
                return "";
            }
            Matcher matcher = TOKEN.matcher(text).region(place, text.length());
            if (!matcher.lookingAt()) {
                throw new Fault(1, place);
            }
            String found = matcher.group();
            if ((matcher.group(1) != null && found.length() > 8) || (matcher.group(2) != null && found.length() > 4)) {
                throw new Fault(1, place);
            }
            return found;
        }

        private String take() {
            String token = token();
            at = place() + token.length();
            return token;
        }

        private boolean isNumber() {
            return !token().isEmpty() && Character.isDigit(token().charAt(0));
        }

        private void must(boolean can, int kind) {
            token();
            if (!can) {
                throw new Fault(kind, place());
            }
        }

        private void sign(String wanted) {
            must(token().equals(wanted), 2);
            take();
        }

        private int number(int least, int most) {
            must(isNumber(), 2);
            int number = Integer.parseInt(token());
            must(number >= least && number <= most, 4);
            take();
            return number;
        }

        void read() {
            Map<String, Integer> told = new HashMap<>();
            while (!token().isEmpty()) {
                String sort = token();
                must(Arrays.asList("marks", "first", "hand", "wax", "draw").contains(sort), 2);
                must(!sort.equals("marks") || told.isEmpty(), 2);
                must(told.getOrDefault(sort, 0) < (sort.equals("hand") ? 4 : 1), 2);
                told.merge(sort, 1, Integer::sum);
                take();
                if (sort.equals("marks")) {
                    width = number(1, 12);
                } else if (sort.equals("wax")) {
                    wax = number(0, 999);
                } else if (sort.equals("draw")) {
                    draw = number(0, 999);
                } else if (sort.equals("first")) {
                    do {
                        must(isNumber(), 2);
                        must(Integer.parseInt(token()) >= width || (first >> Integer.parseInt(token()) & 1) == 0, 3);
                        first |= 1 << number(0, width - 1);
                    } while (isNumber());
                } else {
                    hand();
                }
                sign(";");
            }
        }

        private void hand() {
            String name = token();
            must(name.matches("[a-z]+") && !OWN.contains(name), 2);
            must(hands.stream().noneMatch(hand -> hand.name().equals(name)), 3);
            take();
            sign("wears");
            unitsInOne = 0;
            Formula wears = any(0);
            sign("fills");
            unitsInOne = 0;
            Formula fills = any(0);
            hands.add(new Hand(name, wears, fills));
        }

        private Formula any(int within) {
            Formula left = both(within);
            while (token().equals("or")) {
                take();
                Formula a = left;
                Formula b = both(within);
                left = now -> a.of(now) != 0 | b.of(now) != 0 ? 1 : 0;
            }
            return left;
        }

        private Formula both(int within) {
            Formula left = one(within);
            while (token().equals("and")) {
                take();
                Formula a = left;
                Formula b = one(within);
                left = now -> a.of(now) != 0 & b.of(now) != 0 ? 1 : 0;
            }
            return left;
        }

        private Formula one(int within) {
            if (token().equals("not")) {
                must(within < 7, 2);
                take();
                Formula a = one(within + 1);
                return now -> a.of(now) != 0 ? 0 : 1;
            }
            Formula a = sum(within);
            String sign = token();
            if (!Arrays.asList("<", ">", "=").contains(sign)) {
                return a;
            }
            take();
            Formula b = sum(within);
            if (sign.equals("<")) {
                return now -> a.of(now) < b.of(now) ? 1 : 0;
            }
            return sign.equals(">") ? now -> a.of(now) > b.of(now) ? 1 : 0 : now -> a.of(now) == b.of(now) ? 1 : 0;
        }

        private Formula sum(int within) {
            Formula left = term(within);
            while (token().equals("+") || token().equals("-")) {
                boolean adds = take().equals("+");
                Formula a = left;
                Formula b = term(within);
                left = now -> adds ? a.of(now) + b.of(now) : a.of(now) - b.of(now);
            }
            return left;
        }

        private Formula term(int within) {
            Formula left = unit(within);
            while (Arrays.asList("*", "/", "%").contains(token())) {
                String sign = take();
                Formula a = left;
                Formula b = unit(within);
                left = now -> {
                    int x = a.of(now);
                    int y = b.of(now);
                    if (sign.equals("*")) {
                        return x * y;
                    }
                    return y == 0 ? 0 : sign.equals("/") ? x / y : x % y;
                };
            }
            return left;
        }

        private Formula unit(int within) {
            String token = token();
            must(isNumber() || token.equals("(") || UNITS.contains(token), 2);
            must(unitsInOne < 30 && units < 90 && !(token.equals("(") && within >= 7), 2);
            unitsInOne++;
            units++;
            take();
            if (token.equals("(")) {
                Formula inner = any(within + 1);
                sign(")");
                return inner;
            }
            if (UNITS.contains(token)) {
                return now -> now.get(token);
            }
            int number = Integer.parseInt(token);
            return now -> number;
        }
    }

    private final StringBuilder tape = new StringBuilder();
    private Text rules = new Text("");
    private State state = new State();
    private final List<State> undos = new ArrayList<>();
    private final List<State> redos = new ArrayList<>();
    private final List<Fact> facts = new ArrayList<>();
    private final Map<Integer, Integer> untold = new HashMap<>();
    private final Map<Integer, State> boxes = new HashMap<>();
    private List<Integer> lying = new ArrayList<>();
    private Fault latest = new Fault(0, NONE);
    private int time = 0;

    PlainSealCasts() {
        begin();
    }

    private void begin() {
        state = new State();
        state.seals.add(new Seal(rules.first, NONE, NONE, 0));
        state.wax = rules.wax;
        state.seed = rules.draw;
        undos.clear();
        redos.clear();
        facts.clear();
        untold.clear();
        boxes.clear();
        lying = new ArrayList<>();
    }

    int feed(int a, int b, int c, int d, int e) {
        if (tape.length() + 20 > 1600) {
            return NONE;
        }
        for (int number : new int[] {a, b, c, d, e}) {
            for (int i = 3; i >= 0; i--) {
                tape.append((char) (number >> 8 * i & 255));
            }
        }
        return tape.length();
    }

    int end(int n) {
        if (n < 0 || n > tape.length()) {
            return NONE;
        }
        tape.setLength(n);
        return n;
    }

    int chancery() {
        Text text = new Text(tape.toString());
        try {
            text.read();
        } catch (Fault fault) {
            latest = fault;
            return NONE;
        }
        latest = new Fault(0, NONE);
        rules = text;
        tape.setLength(0);
        begin();
        return rules.hands.size();
    }

    int fault(int what) {
        return what == 0 ? latest.kind : what == 1 ? latest.place : NONE;
    }

    // ---- what can be

    private boolean rowIs(int row) {
        return row >= 0 && row < 1 << rules.width;
    }

    private boolean sealIs(int seal) {
        return seal >= 0 && seal < state.seals.size();
    }

    private boolean handIs(int hand) {
        return hand >= 0 && hand < rules.hands.size();
    }

    private boolean castIs(int seal, int hand, int heat) {
        return sealIs(seal) && handIs(hand) && in(heat, 9);
    }

    private static boolean in(int number, int most) {
        return number >= 0 && number <= most;
    }

    private boolean has(int row, int mark) {
        return mark >= 0 && mark < rules.width && (row & 1 << mark) != 0;
    }

    private int turn(int row) {
        int other = 0;
        for (int m = 0; m < rules.width; m++) {
            if (has(row, m)) {
                other += 1 << rules.width - 1 - m;
            }
        }
        return other;
    }

    private int unlike(int a, int b) {
        int many = 0;
        for (int m = 0; m < rules.width; m++) {
            many += has(a, m) != has(b, m) ? 1 : 0;
        }
        return many;
    }

    private int row(int seal) {
        return state.seals.get(seal).row();
    }

    private int castOf(int row, int hand, int heat, int draw) {
        int from = turn(row);
        int after = 0;
        for (int m = 0; m < rules.width; m++) {
            Map<String, Integer> now = new HashMap<>();
            now.put("mark", m);
            now.put("has", has(from, m) ? 1 : 0);
            now.put("left", has(from, m - 1) ? 1 : 0);
            now.put("right", has(from, m + 1) ? 1 : 0);
            now.put("many", unlike(from, 0));
            now.put("year", state.year);
            now.put("heat", heat);
            now.put("draw", draw);
            Hand who = rules.hands.get(hand);
            boolean is = has(from, m) ? who.wears().of(now) == 0 : who.fills().of(now) != 0;
            after += is ? 1 << m : 0;
        }
        return after;
    }

    // ---- the state

    private int depth(int seal) {
        return seal == 0 ? 0 : 1 + depth(state.seals.get(seal).of());
    }

    int seal(int seal, int what) {
        if (!sealIs(seal) || !in(what, 4)) {
            return NONE;
        }
        Seal s = state.seals.get(seal);
        return new int[] {s.row(), s.of(), s.hand(), s.year(), depth(seal)}[what];
    }

    int shown(int print, int what) {
        if (print < 0 || print >= state.prints.size() || !in(what, 2)) {
            return NONE;
        }
        Print p = state.prints.get(print);
        return new int[] {p.row(), p.seal(), p.year()}[what];
    }

    int prints(int row, int what) {
        if (!rowIs(row) || !in(what, 2)) {
            return NONE;
        }
        List<Integer> years = new ArrayList<>();
        for (Print p : state.prints) {
            if (p.row() == row) {
                years.add(p.year());
            }
        }
        if (what == 0) {
            return years.size();
        }
        return years.isEmpty() ? NONE : years.get(what == 1 ? 0 : years.size() - 1);
    }

    int turned(int row) {
        return rowIs(row) ? turn(row) : NONE;
    }

    int would(int row, int hand, int heat, int draw) {
        return rowIs(row) && handIs(hand) && in(heat, 9) && in(draw, 99) ? castOf(row, hand, heat, draw) : NONE;
    }

    private void acted() {
        undos.add(state.copy());
        if (undos.size() > 40) {
            undos.remove(0);
        }
        redos.clear();
    }

    int cast(int seal, int hand, int heat) {
        if (!castIs(seal, hand, heat) || state.seals.size() == 24 || state.wax < heat + 1) {
            return NONE;
        }
        acted();
        state.seed = (137 * state.seed + 71) % 1000;
        state.seals.add(new Seal(castOf(row(seal), hand, heat, state.seed % 100), seal, hand, state.year));
        state.wax -= heat + 1;
        return state.seals.size() - 1;
    }

    int print(int seal) {
        if (!sealIs(seal) || state.prints.size() == 40 || state.wax == 0) {
            return NONE;
        }
        acted();
        state.prints.add(new Print(turn(row(seal)), seal, state.year));
        state.wax--;
        return state.prints.size() - 1;
    }

    boolean crack(int seal, int mark) {
        if (!sealIs(seal) || !has(row(seal), mark)) {
            return false;
        }
        acted();
        Seal s = state.seals.get(seal);
        state.seals.set(seal, new Seal(s.row() - (1 << mark), s.of(), s.hand(), s.year()));
        return true;
    }

    int year() {
        if (state.year == 999) {
            return NONE;
        }
        acted();
        return ++state.year;
    }

    boolean undo() {
        return swap(undos, redos);
    }

    boolean redo() {
        return swap(redos, undos);
    }

    private boolean swap(List<State> from, List<State> to) {
        if (from.isEmpty()) {
            return false;
        }
        to.add(state);
        state = from.remove(from.size() - 1);
        return true;
    }

    // ---- what is asked

    int whose(int seal, int heat, int row) {
        if (!sealIs(seal) || !in(heat, 9) || !rowIs(row)) {
            return NONE;
        }
        int bits = 0;
        for (int hand = 0; hand < rules.hands.size(); hand++) {
            bits += castOf(row(seal), hand, heat, 0) == row ? 1 << hand : 0;
        }
        return bits;
    }

    int made(int row, int m) {
        if (!rowIs(row) || !in(m, 12)) {
            return NONE;
        }
        int bits = 0;
        for (int seal = 0; seal < state.seals.size(); seal++) {
            int extra = 0;
            int lost = 0;
            for (int mark = 0; mark < rules.width; mark++) {
                extra += has(row, mark) && !has(turn(row(seal)), mark) ? 1 : 0;
                lost += !has(row, mark) && has(turn(row(seal)), mark) ? 1 : 0;
            }
            bits += extra == 0 && lost <= m ? 1 << seal : 0;
        }
        return bits;
    }

    int apart(int seal, int other, boolean turned) {
        return sealIs(seal) && sealIs(other) ? unlike(row(seal), turned ? turn(row(other)) : row(other)) : NONE;
    }

    int heats(int seal, int hand, int row) {
        if (!castIs(seal, hand, 0) || !rowIs(row)) {
            return NONE;
        }
        int bits = 0;
        for (int heat = 0; heat < 10; heat++) {
            bits += castOf(row(seal), hand, heat, 0) == row ? 1 << heat : 0;
        }
        return bits;
    }

    int luck(int seal, int hand, int heat, int row) {
        if (!castIs(seal, hand, heat) || !rowIs(row)) {
            return NONE;
        }
        int many = 0;
        for (int draw = 0; draw < 100; draw++) {
            many += castOf(row(seal), hand, heat, draw) == row ? 1 : 0;
        }
        return many;
    }

    int likely(int seal, int hand, int heat, int what) {
        if (!castIs(seal, hand, heat) || !in(what, 1)) {
            return NONE;
        }
        Map<Integer, Integer> draws = new HashMap<>();
        for (int draw = 0; draw < 100; draw++) {
            draws.merge(castOf(row(seal), hand, heat, draw), 1, Integer::sum);
        }
        int most = draws.values().stream().max(Integer::compare).get();
        int least = draws.keySet().stream().filter(r -> draws.get(r) == most).min(Integer::compare).get();
        return what == 0 ? least : most;
    }

    int fades(int seal, int hand, int heat) {
        if (!castIs(seal, hand, heat)) {
            return NONE;
        }
        List<Integer> line = lineOf(seal, hand, heat);
        return line.indexOf(0);
    }

    /** ROWS behind 0, 1, ... CASTS, the last being the first that was there already. */
    private List<Integer> lineOf(int seal, int hand, int heat) {
        List<Integer> line = new ArrayList<>();
        int row = row(seal);
        while (!line.contains(row)) {
            line.add(row);
            row = castOf(row, hand, heat, 0);
        }
        line.add(row);
        return line;
    }

    int round(int seal, int hand, int heat, int what) {
        if (!castIs(seal, hand, heat) || !in(what, 1)) {
            return NONE;
        }
        List<Integer> line = lineOf(seal, hand, heat);
        int number = line.size() - 1;
        return what == 0 ? number : number - line.indexOf(line.get(number));
    }

    private List<Integer> lineBack(int seal) {
        List<Integer> line = new ArrayList<>();
        for (int s = seal; s != NONE; s = state.seals.get(s).of()) {
            line.add(s);
        }
        return line;
    }

    int kin(int seal, int other, int what) {
        if (!sealIs(seal) || !sealIs(other) || !in(what, 1)) {
            return NONE;
        }
        List<Integer> one = lineBack(seal);
        List<Integer> two = lineBack(other);
        int best = one.stream().filter(two::contains).max(Integer::compare).get();
        return what == 0 ? best : one.indexOf(best) + two.indexOf(best);
    }

    int thumb(int seal, int mark) {
        if (!sealIs(seal) || !has(row(seal), mark)) {
            return -2;
        }
        if (seal == 0) {
            return NONE;
        }
        int of = state.seals.get(seal).of();
        int there = rules.width - 1 - mark;
        return has(row(of), there) ? thumb(of, there) : state.seals.get(seal).hand();
    }

    int share(int row, int n, int province) {
        if (!rowIs(row) || n < 1 || n > 4 || !in(province, n - 1)) {
            return NONE;
        }
        int all = unlike(row, 0);
        if (all == 0) {
            return 0;
        }
        int[] parts = new int[n];
        int[] rests = new int[n];
        for (int m = 0; m < rules.width; m++) {
            parts[m * n / rules.width] += has(row, m) ? 100 : 0;
        }
        int left = 100;
        for (int p = 0; p < n; p++) {
            rests[p] = parts[p] % all;
            parts[p] /= all;
            left -= parts[p];
        }
        for (; left > 0; left--) {
            int best = 0;
            for (int p = 0; p < n; p++) {
                best = rests[p] > rests[best] ? p : best;
            }
            parts[best]++;
            rests[best] = -1;
        }
        return parts[province];
    }

    int forge(int seal, int hand, int heat, int row, int what) {
        if (!castIs(seal, hand, heat) || !rowIs(row) || !in(what, 1)) {
            return NONE;
        }
        for (int many = 0; many <= rules.width; many++) {
            for (int from = 0; from < 1 << rules.width; from++) {
                if (unlike(from, row(seal)) == many && castOf(from, hand, heat, 0) == row) {
                    return what == 0 ? many : from;
                }
            }
        }
        return NONE;
    }

    int nearest(int row, int what) {
        if (!rowIs(row) || !in(what, 2)) {
            return NONE;
        }
        for (int many = 0; ; many++) {
            for (int seal = 0; seal < state.seals.size(); seal++) {
                if (unlike(row, turn(row(seal))) == many) {
                    return new int[] {many, seal, 0}[what];
                }
            }
            for (int seal = 0; seal < state.seals.size(); seal++) {
                if (unlike(row, row(seal)) == many) {
                    return new int[] {many, seal, 1}[what];
                }
            }
        }
    }

    int common(int what) {
        if (!in(what, 2)) {
            return NONE;
        }
        int bits = 0;
        for (int mark = 0; mark < rules.width; mark++) {
            int m = mark;
            boolean is = what == 0 ? state.seals.stream().allMatch(s -> has(s.row(), m))
                : what == 1 ? state.seals.stream().anyMatch(s -> has(s.row(), m))
                : state.prints.stream().allMatch(p -> has(p.row(), m));
            bits += is ? 1 << m : 0;
        }
        return bits;
    }

    int alike(int row, boolean isTurned) {
        if (!rowIs(row)) {
            return NONE;
        }
        int bits = 0;
        for (int seal = 0; seal < state.seals.size(); seal++) {
            bits += row(seal) == (isTurned ? turn(row) : row) ? 1 << seal : 0;
        }
        return bits;
    }

    int tell() {
        for (int many = 0; ; many++) {
            for (int marks = 0; marks < 1 << rules.width; marks++) {
                Map<Integer, Integer> seen = new HashMap<>();
                boolean tells = unlike(marks, 0) == many;
                for (Seal s : state.seals) {
                    tells &= seen.getOrDefault(s.row() & marks, s.row()) == s.row();
                    seen.put(s.row() & marks, s.row());
                }
                if (tells) {
                    lying = new ArrayList<>();
                    for (int m = 0; m < rules.width; m++) {
                        if (has(marks, m)) {
                            lying.add(m);
                        }
                    }
                    return many;
                }
            }
        }
    }

    int steady(int hand, int heat, int what) {
        if (!castIs(0, hand, heat) || !in(what, 1)) {
            return NONE;
        }
        List<Integer> rows = new ArrayList<>();
        for (int row = 0; row < 1 << rules.width; row++) {
            if (castOf(castOf(row, hand, heat, 0), hand, heat, 0) == row) {
                rows.add(row);
            }
        }
        if (what == 0) {
            return rows.size();
        }
        return rows.stream().min((a, b) -> unlike(a, 0) != unlike(b, 0)
            ? unlike(b, 0) - unlike(a, 0) : a - b).orElse(NONE);
    }

    int against(int hand, int other, int heat) {
        if (!castIs(0, hand, heat) || !handIs(other)) {
            return NONE;
        }
        int many = 0;
        for (int row = 0; row < 1 << rules.width; row++) {
            many += castOf(row, hand, heat, 0) != castOf(row, other, heat, 0) ? 1 : 0;
        }
        return many;
    }

    /** Tries every way, in the order in which of like ones the first counts. */
    int wax(int row) {
        lying = new ArrayList<>();
        if (!rowIs(row)) {
            return NONE;
        }
        Map<Integer, Integer> casts = new HashMap<>();
        int[] best = {NONE};
        for (int seal = 0; seal < state.seals.size(); seal++) {
            List<Integer> way = new ArrayList<>();
            way.add(seal);
            seek(row(seal), row, 0, way, best, casts);
        }
        return best[0];
    }

    private void seek(int at, int wanted, int cost, List<Integer> way, int[] best, Map<Integer, Integer> casts) {
        if (at == wanted && (best[0] == NONE || cost < best[0])) {
            best[0] = cost;
            lying = new ArrayList<>(way);
        }
        if (way.size() == 5) {
            return;
        }
        for (int hand = 0; hand < rules.hands.size(); hand++) {
            for (int heat = 0; heat < 4; heat++) {
                int h = hand;
                int t = heat;
                int next = casts.computeIfAbsent((at * 4 + hand) * 4 + heat, key -> castOf(at, h, t, 0));
                way.add(10 * hand + heat);
                seek(next, wanted, cost + 1 + heat, way, best, casts);
                way.remove(way.size() - 1);
            }
        }
    }

    // ---- FACTS

    private int told(boolean can, String sort, boolean is, int... numbers) {
        if (!can || facts.size() == 40) {
            return NONE;
        }
        facts.add(new Fact(sort, numbers, is, time));
        return facts.size() - 1;
    }

    int sample(int row, boolean isBackward) {
        return told(rowIs(row), "sample", isBackward, row);
    }

    int claim(int row, int seal, int year) {
        return told(rowIs(row) && sealIs(seal) && in(year, 999), "claim", true, row, seal, year);
    }

    int saw(int mark, int year, boolean is) {
        return told(in(mark, rules.width - 1) && in(year, 999), "sight", is, mark, year);
    }

    int link(int paper, int other, boolean isTurned) {
        return told(in(paper, 7) && in(other, 7) && paper != other, "link", isTurned, paper, other);
    }

    boolean untell(int fact) {
        if (fact < 0 || fact >= facts.size() || untold.containsKey(fact)) {
            return false;
        }
        untold.put(fact, time);
        return true;
    }

    int later(int by) {
        if (!in(by, 1000) || time + by > 100000) {
            return NONE;
        }
        time += by;
        return time;
    }

    private List<Fact> known(String sort, int k) {
        List<Fact> known = new ArrayList<>();
        for (int i = 0; i < facts.size(); i++) {
            boolean isUntold = untold.containsKey(i) && untold.get(i) <= k;
            if (facts.get(i).sort().equals(sort) && facts.get(i).at() <= k && !isUntold) {
                known.add(facts.get(i));
            }
        }
        return known;
    }

    private List<Integer> rowsOfSamples(int k) {
        List<Integer> rows = new ArrayList<>();
        for (Fact fact : known("sample", k)) {
            if (rows.size() < 7) {
                rows.add(fact.told()[0]);
            }
        }
        return rows;
    }

    private int changes(int from, int to) {
        int sum = 0;
        for (int m = 0; m < rules.width; m++) {
            boolean was = has(turn(from), m);
            sum += was && !has(to, m) ? 1 : !was && has(to, m) ? 2 : 0;
        }
        return sum;
    }

    /** Counts through all ways to tell from which each comes, in their order. */
    int tree(int root, int what, int k) {
        lying = new ArrayList<>();
        List<Integer> rows = rowsOfSamples(k);
        int n = rows.size();
        if (!in(root, n - 1) || !in(what, 1)) {
            return NONE;
        }
        int all = 1;
        for (int i = 0; i < n - 1; i++) {
            all *= n;
        }
        int fewest = Integer.MAX_VALUE;
        int many = 0;
        for (int number = 0; number < all; number++) {
            int[] from = new int[n];
            int rest = number;
            for (int i = n - 1; i >= 0; i--) {
                from[i] = i == root ? NONE : rest % n;
                rest = i == root ? rest : rest / n;
            }
            if (!isTree(from, root)) {
                continue;
            }
            int sum = 0;
            for (int i = 0; i < n; i++) {
                sum += i == root ? 0 : changes(rows.get(from[i]), rows.get(i));
            }
            if (sum < fewest) {
                fewest = sum;
                many = 0;
                lying = new ArrayList<>();
                for (int i : from) {
                    lying.add(i);
                }
            }
            many += sum == fewest ? 1 : 0;
        }
        return what == 0 ? fewest : many;
    }

    private static boolean isTree(int[] from, int root) {
        for (int i = 0; i < from.length; i++) {
            int at = i;
            for (int step = 0; step < from.length && at != root; step++) {
                at = from[at];
            }
            if (at != root) {
                return false;
            }
        }
        return true;
    }

    int centre(int what, int k) {
        List<Integer> rows = rowsOfSamples(k);
        if (rows.isEmpty() || !in(what, 1)) {
            return NONE;
        }
        int best = NONE;
        int fewest = Integer.MAX_VALUE;
        for (int i = 0; i < rows.size(); i++) {
            int sum = 0;
            for (int j = 0; j < rows.size(); j++) {
                sum += i == j ? 0 : changes(rows.get(i), rows.get(j));
            }
            if (sum < fewest) {
                fewest = sum;
                best = i;
            }
        }
        return what == 0 ? best : fewest;
    }

    int clans(int m, int what, int k) {
        if (!in(m, 24) || !in(what, 1)) {
            return NONE;
        }
        List<Integer> rows = rowsOfSamples(k);
        Set<Integer> left = new HashSet<>();
        for (int i = 0; i < rows.size(); i++) {
            left.add(i);
        }
        int many = 0;
        int largest = 0;
        while (!left.isEmpty()) {
            List<Integer> clan = new ArrayList<>();
            clan.add(left.iterator().next());
            left.remove(clan.get(0));
            for (int at = 0; at < clan.size(); at++) {
                for (int other : new ArrayList<>(left)) {
                    int a = rows.get(clan.get(at));
                    int b = rows.get(other);
                    if (changes(a, b) <= m || changes(b, a) <= m) {
                        clan.add(other);
                        left.remove(other);
                    }
                }
            }
            many++;
            largest = Math.max(largest, clan.size());
        }
        return what == 0 ? many : largest;
    }

    int origin(int what, int k) {
        if (!in(what, 1)) {
            return NONE;
        }
        int best = NONE;
        int least = Integer.MAX_VALUE;
        for (int row = 0; row < 1 << rules.width; row++) {
            int sum = 0;
            for (Fact fact : known("sample", k)) {
                int seen = fact.is() ? turn(fact.told()[0]) : fact.told()[0];
                for (int m = 0; m < rules.width; m++) {
                    sum += has(row, m) && !has(seen, m) ? 1 : !has(row, m) && has(seen, m) ? 2 : 0;
                }
            }
            if (sum < least) {
                least = sum;
                best = row;
            }
        }
        return what == 0 ? best : least;
    }

    int falses(int k) {
        lying = new ArrayList<>();
        int many = 0;
        for (Fact fact : known("claim", k)) {
            int[] t = fact.told();
            boolean isFalse = !sealIs(t[1]) || t[2] < state.seals.get(t[1]).year();
            for (int m = 0; m < rules.width && !isFalse; m++) {
                isFalse = has(t[0], m) && !has(turn(row(t[1])), m);
            }
            if (isFalse) {
                many++;
                if (lying.size() < 8) {
                    lying.add(facts.indexOf(fact));
                }
            }
        }
        return many;
    }

    int span(int mark, int what, int k) {
        if (!in(mark, rules.width - 1) || !in(what, 2)) {
            return NONE;
        }
        List<Integer> years = new ArrayList<>();
        for (int year = 0; year < 1000; year++) {
            boolean can = true;
            for (Fact fact : known("sight", k)) {
                can &= fact.told()[0] != mark || fact.told()[1] < year == fact.is();
            }
            if (can) {
                years.add(year);
            }
        }
        if (what == 2) {
            return years.size();
        }
        return years.isEmpty() ? NONE : years.get(what == 0 ? 0 : years.size() - 1);
    }

    /** Tries every way in which the eight PAPERS can lie. */
    int backward(int paper, int k) {
        if (!in(paper, 7)) {
            return NONE;
        }
        Set<Integer> sides = new HashSet<>();
        for (int papers = 0; papers < 256; papers++) {
            boolean can = true;
            for (Fact fact : known("link", k)) {
                can &= ((papers >> fact.told()[0] ^ papers >> fact.told()[1]) & 1) == (fact.is() ? 1 : 0);
            }
            if (can) {
                sides.add((papers >> paper ^ papers) & 1);
            }
        }
        return sides.isEmpty() ? -2 : sides.size() == 2 ? NONE : sides.iterator().next();
    }

    int lies(int i) {
        return i < 0 || i >= lying.size() ? -2 : lying.get(i);
    }

    int image(int box) {
        if (!in(box, 2)) {
            return NONE;
        }
        boxes.put(box, state.copy());
        return state.seals.size();
    }

    int back(int box) {
        if (!boxes.containsKey(box)) {
            return NONE;
        }
        state = boxes.get(box).copy();
        undos.clear();
        redos.clear();
        return state.seals.size();
    }

    int about(int what) {
        return !in(what, 13) ? NONE : new int[] {rules.hands.size(), rules.width, state.seals.size(),
            state.prints.size(), state.wax, state.year, state.seed, undos.size(), redos.size(), facts.size(), time,
            tape.length(), rules.units, lying.size()}[what];
    }
}
