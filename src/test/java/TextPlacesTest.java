import java.util.ArrayList;
import java.util.List;
import java.util.Random;

/**
 * "FAULTS, the first by its place", without a second reader of texts: of a FAULT at a place is asked that what stands
 * ahead of it can go on to a text without one (else the FAULT was earlier), and that whatever comes behind its TOKEN,
 * the FAULT is the same (else it was no FAULT yet).
 */
public final class TextPlacesTest {
    private static final int TEXTS = 4000;
    private static final int TRIES_BEHIND = 6;
    private static final int CALLS_MOST = 512;
    private static final String[] UNITS = {"mark", "has", "left", "right", "many", "year", "heat", "draw", "0", "7", "9999"};
    private static final String[] TOKENS = {";", "(", ")", "<", ">", "=", "+", "-", "*", "/", "%", "or", "and", "not",
        "marks", "first", "hand", "wears", "fills", "wax", "draw", "mark", "has", "0", "1", "5", "12", "13", "999", "1000",
        "aa", "bb", "zz", "e", "one"};
    /** What is no TOKEN, whatever stands around it. */
    private static final String[] SCRAPS = {"!", "A", ",", "\t", "_", "\u0000", "\u00e9", "12345", "7a", "abcdefghi"};

    private final Random random = new Random(8);
    private final int[] faults = new int[5];
    private SealCasts x = new SealCasts();
    private int calls = 0;
    private int wrong = 0;
    private int place = 0;

    public static void main(String[] args) {
        new TextPlacesTest().go();
    }

    private void go() {
        for (int i = 0; i < TEXTS && wrong < 10; i++) {
            List<String> tokens = drawnText();
            for (int changes = upTo(2); changes > 0; changes--) {
                spoil(tokens);
            }
            look(joined(tokens));
        }
        for (int kind = 0; kind < faults.length; kind++) {
            must(faults[kind] > TEXTS / 100, "only " + faults[kind] + " texts with FAULT " + kind, "");
        }
        System.out.println("TextPlacesTest: " + (wrong == 0 ? TEXTS + " texts as due" : wrong + " are not as due"));
        if (wrong != 0) {
            System.exit(1);
        }
    }

    private void must(boolean is, String what, String text) {
        if (!is) {
            wrong++;
            System.out.println(what + ": " + text.replace("\n", "\\n"));
        }
    }

    private int upTo(int most) {
        return random.nextInt(most + 1);
    }

    private String oneOf(String[] some) {
        return some[random.nextInt(some.length)];
    }

    // ---- texts

    private List<String> drawnText() {
        List<String> tokens = new ArrayList<>();
        if (upTo(2) == 0) {
            tokens.addAll(List.of("marks", "" + (1 + upTo(11)), ";"));
        }
        for (int lines = upTo(4); lines > 0; lines--) {
            switch (upTo(5)) {
                case 0: tokens.addAll(List.of("wax", "" + upTo(999), ";")); break;
                case 1: tokens.addAll(List.of("draw", "" + upTo(999), ";")); break;
                case 2:
                    tokens.add("first");
                    for (int marks = upTo(2); marks >= 0; marks--) {
                        tokens.add("" + upTo(7));
                    }
                    tokens.add(";");
                    break;
                default:
                    tokens.addAll(List.of("hand", "" + (char) ('a' + upTo(12)), "wears"));
                    addFormula(tokens, 2);
                    tokens.add("fills");
                    addFormula(tokens, 2);
                    tokens.add(";");
                    break;
            }
        }
        return tokens;
    }

    private void addFormula(List<String> tokens, int deep) {
        int sort = deep == 0 ? 0 : upTo(5);
        if (sort == 3) {
            tokens.add("not");
            addFormula(tokens, deep - 1);
        } else if (sort == 4) {
            tokens.add("(");
            addFormula(tokens, deep - 1);
            tokens.add(")");
        } else if (sort == 5) {
            addFormula(tokens, deep - 1);
            tokens.add(oneOf(new String[] {"or", "and", "<", "=", ">", "+", "-", "*", "/", "%"}));
            addFormula(tokens, deep - 1);
        } else {
            tokens.add(oneOf(UNITS));
        }
    }

    private void spoil(List<String> tokens) {
        int at = upTo(tokens.size());
        int sort = upTo(9);
        if (sort == 0) {
            tokens.add(at, oneOf(SCRAPS));
        } else if (sort < 4 || at == tokens.size()) {
            tokens.add(at, oneOf(TOKENS));
        } else if (sort < 7) {
            tokens.set(at, oneOf(TOKENS));
        } else if (sort < 9) {
            tokens.remove(at);
        } else {
            tokens.subList(at, tokens.size()).clear();
        }
    }

    private String joined(List<String> tokens) {
        StringBuilder text = new StringBuilder();
        for (String token : tokens) {
            boolean mayTouch = text.length() > 0 && ";()<>=+-*/%".indexOf(text.charAt(text.length() - 1)) >= 0;
            text.append(mayTouch && upTo(1) == 0 ? "" : oneOf(new String[] {" ", "\n", "  "})).append(token);
        }
        return text.append(upTo(3) == 0 ? " " : "").toString();
    }

    // ---- what is asked of them

    /** The FAULT of a text; its place is known then. */
    private int faultOf(String text) {
        int needed = text.length() / 20 + 7;
        if (calls + needed > CALLS_MOST) {
            x = new SealCasts();
            calls = 0;
        }
        calls += needed;
        x.end(0);
        Checks.feedText(x, text);
        x.chancery();
        place = x.fault(1);
        return x.fault(0);
    }

    private void look(String text) {
        int fault = faultOf(text);
        int at = place;
        faults[fault]++;
        if (fault == 0) {
            return;
        }
        boolean isIn = at >= 0 && at <= text.length();
        must(isIn, "FAULT " + fault + " at " + at, text);
        if (isIn) {
            must(canGoOn(text.substring(0, at)), "nothing can come behind what is ahead of " + at, text);
            staysBehind(text, fault, at);
        }
    }

    private boolean canGoOn(String ahead) {
        for (String tail : new String[] {"", " ;", " fills 0;"}) {
            for (String head : new String[] {"", " 0", " zz", " wears 0", " zz wears 0", " 1", " 2", " 3"}) {
                for (int closed = 0; closed <= 7; closed++) {
                    if (faultOf(ahead + head + ")".repeat(closed) + tail) == 0) {
                        return true;
                    }
                }
            }
        }
        return faultOf(ahead + " wears 0 fills 0;") == 0 || faultOf(ahead + " zz wears 0 fills 0;") == 0;
    }

    private void staysBehind(String text, int fault, int at) {
        if (at == text.length()) {
            return;
        }
        String upToToken = text.substring(0, endOfToken(text, at));
        for (int i = 0; i < TRIES_BEHIND; i++) {
            StringBuilder other = new StringBuilder(upToToken);
            for (int more = upTo(4); more > 0; more--) {
                other.append(" ").append(oneOf(upTo(9) == 0 ? SCRAPS : TOKENS));
            }
            int again = faultOf(other.toString());
            must(again == fault && place == at, "FAULT " + fault + " at " + at + " is " + again + " at " + place + " in "
                + other, text);
        }
    }

    private static int endOfToken(String text, int from) {
        int at = from;
        while (at < text.length() && Character.isLetterOrDigit(text.charAt(at))) {
            at++;
        }
        return Math.max(at, from + 1);
    }
}
