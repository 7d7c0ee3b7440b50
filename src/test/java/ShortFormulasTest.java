import java.util.ArrayList;
import java.util.List;

/**
 * All formulas of up to seven TOKENS of these nine, and all that one TOKEN more makes none: where their FAULT is and what
 * comes of them, against a reading that splits a formula at its last weakest sign, not going from TOKEN to TOKEN.
 */
public final class ShortFormulasTest {
    private static final String[] TOKENS = {"N", "(", ")", "not", "or", "and", "<", "-", "%"};
    /** The first unit of a formula is the first of these, and so on. */
    private static final String[] UNITS = {"7", "3", "0", "2", "5", "1", "6"};
    /** With one more, some would be within too many others. */
    private static final int LENGTH_MOST = 7;
    private static final int CALLS_MOST = 512;
    private static final String AHEAD = "hand a wears";

    private SealCasts x = new SealCasts();
    private int calls = 0;
    private int texts = 0;
    private int fine = 0;
    private int wrong = 0;

    public static void main(String[] args) {
        new ShortFormulasTest().go();
    }

    private void go() {
        look(new ArrayList<>());
        goOn(new ArrayList<>(), 0);
        must(fine > 500, "only " + fine + " formulas that can be");
        System.out.println("ShortFormulasTest: "
            + (wrong == 0 ? texts + " texts as due, " + fine + " formulas" : wrong + " are not as due"));
        if (wrong != 0) {
            System.exit(1);
        }
    }

    private void must(boolean is, String otherwise) {
        if (!is) {
            wrong++;
            System.out.println(otherwise);
        }
    }

    /** All that come of these TOKENS with more of them, until no formula can begin so any more. */
    private void goOn(List<String> tokens, int units) {
        for (String token : TOKENS) {
            boolean isUnit = token.equals("N");
            tokens.add(isUnit ? UNITS[units] : token);
            look(tokens);
            if (tokens.size() < LENGTH_MOST && wrong < 10 && canBegin(tokens)) {
                goOn(tokens, units + (isUnit ? 1 : 0));
            }
            tokens.remove(tokens.size() - 1);
        }
    }

    private void look(List<String> tokens) {
        StringBuilder text = new StringBuilder(AHEAD);
        int due = SealCasts.NONE;
        for (int i = 0; i < tokens.size(); i++) {
            text.append(" ");
            if (due == SealCasts.NONE && !canBegin(tokens.subList(0, i + 1))) {
                due = text.length();
            }
            text.append(tokens.get(i));
        }
        Integer value = valueOf(tokens);
        if (due == SealCasts.NONE && value == null) {
            due = text.length() + 1;
        }
        text.append(" fills 0;");
        int fault = tell(text.toString());
        int place = x.fault(1);
        calls++;
        must(fault == (due == SealCasts.NONE ? 0 : 2) && place == due,
            text + ": FAULT " + fault + " at " + place + ", due is " + due);
        if (value != null) {
            fine++;
            lookAtValue(String.join(" ", tokens), value);
        }
    }

    /** A MARK stays where what comes of wears is 0. */
    private void lookAtValue(String formula, int value) {
        for (int off = 0; off < 2; off++) {
            int number = value + off;
            String less = number < 0 ? "+" + -number : "-" + number;
            tell(AHEAD + "(" + formula + ")" + less + " fills 0;");
            must(x.would(1, 0, 0, 0) == (off == 0 ? 128 : 0), formula + " is not " + value);
            calls++;
        }
    }

    /** The FAULT of a text. */
    private int tell(String text) {
        texts++;
        if (calls + text.length() / 20 + 12 > CALLS_MOST) {
            x = new SealCasts();
            calls = 0;
        }
        calls += text.length() / 20 + 6;
        x.end(0);
        Checks.feedText(x, text);
        x.chancery();
        return x.fault(0);
    }

    // ---- the other reading

    /** Whether a formula can begin so: with a unit behind it or not, and as many ) as it needs, it is one. */
    private static boolean canBegin(List<String> tokens) {
        List<String> whole = new ArrayList<>(tokens);
        for (int closed = 0; closed <= LENGTH_MOST; closed++) {
            if (valueOf(whole) != null) {
                return true;
            }
            whole.add(tokens.size(), "4");
            if (valueOf(whole) != null) {
                return true;
            }
            whole.remove(tokens.size());
            whole.add(")");
        }
        return false;
    }

    /** What comes of a formula; null if it is none. */
    private static Integer valueOf(List<String> tokens) {
        int at = lastOf(tokens, "or");
        at = at >= 0 ? at : lastOf(tokens, "and");
        if (at >= 0) {
            boolean isOr = tokens.get(at).equals("or");
            Integer a = valueOf(tokens.subList(0, at));
            // Ahead of an "and" no "or" is left, since "or" is weaker and was split at first.
            Integer b = valueOf(tokens.subList(at + 1, tokens.size()));
            if (a == null || b == null) {
                return null;
            }
            return (isOr ? a != 0 || b != 0 : a != 0 && b != 0) ? 1 : 0;
        }
        if (!tokens.isEmpty() && tokens.get(0).equals("not")) {
            Integer a = valueOf(tokens.subList(1, tokens.size()));
            return a == null ? null : Integer.valueOf(a == 0 ? 1 : 0);
        }
        at = lastOf(tokens, "<");
        if (at < 0) {
            return sumOf(tokens);
        }
        Integer a = sumOf(tokens.subList(0, at));
        Integer b = sumOf(tokens.subList(at + 1, tokens.size()));
        return a == null || b == null ? null : Integer.valueOf(a < b ? 1 : 0);
    }

    private static Integer sumOf(List<String> tokens) {
        int at = lastOf(tokens, "-");
        if (at < 0) {
            return termOf(tokens);
        }
        Integer a = sumOf(tokens.subList(0, at));
        Integer b = termOf(tokens.subList(at + 1, tokens.size()));
        return a == null || b == null ? null : Integer.valueOf(a - b);
    }

    private static Integer termOf(List<String> tokens) {
        int at = lastOf(tokens, "%");
        if (at < 0) {
            return unitOf(tokens);
        }
        Integer a = termOf(tokens.subList(0, at));
        Integer b = unitOf(tokens.subList(at + 1, tokens.size()));
        return a == null || b == null ? null : Integer.valueOf(b == 0 ? 0 : a % b);
    }

    private static Integer unitOf(List<String> tokens) {
        int size = tokens.size();
        if (size == 1 && Character.isDigit(tokens.get(0).charAt(0))) {
            return Integer.valueOf(tokens.get(0));
        }
        boolean isWithin = size > 2 && tokens.get(0).equals("(") && tokens.get(size - 1).equals(")");
        return isWithin ? valueOf(tokens.subList(1, size - 1)) : null;
    }

    /** The last place of a sign outside all ( and ). */
    private static int lastOf(List<String> tokens, String sign) {
        int deep = 0;
        for (int i = tokens.size() - 1; i >= 0; i--) {
            deep += tokens.get(i).equals(")") ? 1 : tokens.get(i).equals("(") ? -1 : 0;
            if (deep == 0 && tokens.get(i).equals(sign)) {
                return i;
            }
        }
        return -1;
    }
}
