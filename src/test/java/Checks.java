import java.io.IOException;
import java.nio.file.Files;
import java.nio.file.Path;
import java.util.List;
import java.util.TreeSet;
import java.util.function.Consumer;
import java.util.function.IntUnaryOperator;
import java.util.function.Supplier;

/** What the tests of the promises share: telling a text, comparing, and the end with its exit code. */
final class Checks {
    private static final Path DOCUMENT = Path.of("../shared/DOC.md");
    private static final int SHOWN_MOST = 20;

    private final String name;
    private final TreeSet<Integer> promises = new TreeSet<>();
    private int count = 0;
    private int wrong = 0;
    private String document = "";
    private int promise = 0;
    private String sentence = "";

    Checks(String name) {
        this.name = name;
    }

    /** From here on what is due is due by this sentence of the document (promise 0: of its Terms). */
    void sentence(int ofPromise, String words) {
        promise = ofPromise;
        sentence = words;
        promises.add(ofPromise);
        if (!document().contains(words)) {
            fail("the document does not say: " + words);
        }
    }

    private String document() {
        if (document.isEmpty()) {
            try {
                document = Files.readString(DOCUMENT).replaceAll("\\s+", " ");
            } catch (IOException e) {
                fail(DOCUMENT + " can't be read");
            }
        }
        return document;
    }

    private void fail(String what) {
        wrong++;
        if (wrong <= SHOWN_MOST) {
            System.out.println(what);
        }
    }

    void due(String call, int got, int want) {
        count++;
        if (got != want) {
            fail("promise " + promise + ": " + call + " answered " + got + ", due is " + want + "\n    by: " + sentence);
        }
    }

    void due(String call, boolean got, boolean want) {
        due(call, got ? 1 : 0, want ? 1 : 0);
    }

    /** Numbers from least to most are taken, all others refused. */
    void bounds(String call, IntUnaryOperator at, int least, int most, int refused) {
        for (int number : new int[] {least - 1, most + 1, most + 32, Integer.MIN_VALUE, Integer.MAX_VALUE}) {
            due(call + " with " + number, at.applyAsInt(number), refused);
        }
        // Of many numbers those at both ends and some between, so that an object is not used too often.
        int step = Math.max(1, (most - least) / 50);
        for (int number = least; number <= most; number += number < most ? Math.min(step, most - number) : 1) {
            count++;
            if (at.applyAsInt(number) == refused) {
                fail("promise " + promise + ": " + call + " refuses " + number + "\n    by: " + sentence);
            }
        }
    }

    /** A call after which all later calls answer as they do without it. */
    void leavesAll(String call, Supplier<SealCasts> making, Consumer<SealCasts> refused) {
        SealCasts called = making.get();
        refused.accept(called);
        alike("behind " + call, called, making.get());
    }

    /** Two objects of which all later calls show the same; both are used up. */
    void alike(String when, SealCasts one, SealCasts other) {
        List<String> got = Later.answers(one);
        List<String> want = Later.answers(other);
        count++;
        for (int i = 0; i < Math.max(got.size(), want.size()); i++) {
            String answer = i < got.size() ? got.get(i) : "nothing more";
            String due = i < want.size() ? want.get(i) : "nothing more";
            if (!answer.equals(due)) {
                fail("promise " + promise + ": " + when + " " + answer + ", due is " + due + "\n    by: " + sentence);
                return;
            }
        }
    }

    void due(int promise, String call, int got, int want) {
        count++;
        if (got != want) {
            fail("promise " + promise + ": " + call + " answered " + got + ", due is " + want);
        }
    }

    void due(int promise, String call, boolean got, boolean want) {
        due(promise, call, got ? 1 : 0, want ? 1 : 0);
    }

    /** Puts a text on the TAPE, behind what is there. */
    static int feedText(SealCasts x, String text) {
        StringBuilder padded = new StringBuilder(text);
        while (padded.length() % 20 != 0) {
            padded.append(' ');
        }
        int end = x.about(11) + text.length();
        for (int at = 0; at < padded.length(); at += 20) {
            int[] n = new int[5];
            for (int i = 0; i < 20; i++) {
                n[i / 4] = n[i / 4] << 8 | padded.charAt(at + i) & 255;
            }
            x.feed(n[0], n[1], n[2], n[3], n[4]);
        }
        return x.end(end);
    }

    /** A new object with a CHANCERY. */
    SealCasts told(String text) {
        SealCasts x = new SealCasts();
        feedText(x, text);
        if (x.chancery() < 0) {
            fail("fault " + x.fault(0) + " at " + x.fault(1) + " in: " + text);
        }
        return x;
    }

    /** A text with a FAULT, which leaves all as it was. */
    void fault(String text, int kind, int place) {
        SealCasts x = new SealCasts();
        feedText(x, text);
        due(4, "chancery of " + text, x.chancery(), SealCasts.NONE);
        due(5, "fault(0) of " + text, x.fault(0), kind);
        due(5, "fault(1) of " + text, x.fault(1), place);
        due(4, "about(0) behind " + text, x.about(0), 0);
        due(4, "about(11) behind " + text, x.about(11), text.length());
    }

    /** A text without one. */
    void fine(String text, int hands, int units) {
        SealCasts x = new SealCasts();
        feedText(x, text);
        due(4, "chancery of " + text, x.chancery(), hands);
        due(5, "fault(0) of " + text, x.fault(0), 0);
        due(5, "fault(1) of " + text, x.fault(1), SealCasts.NONE);
        due(52, "about(12) of " + text, x.about(12), units);
    }

    /** What lies there has to be just this. */
    void lies(int promise, SealCasts x, int... numbers) {
        due(52, "about(13)", x.about(13), numbers.length);
        for (int i = 0; i < numbers.length; i++) {
            due(promise, "lies(" + i + ")", x.lies(i), numbers[i]);
        }
        due(49, "lies(" + numbers.length + ")", x.lies(numbers.length), -2);
        due(49, "lies(-1)", x.lies(-1), -2);
    }

    /** The end, if each of these promises had a sentence. */
    void endOf(int... wanted) {
        for (int each : wanted) {
            if (!promises.contains(each)) {
                fail("no sentence of promise " + each + " is tested");
            }
        }
        end();
    }

    void end() {
        System.out.println(name + ": " + (wrong == 0 ? count + " answers as due" : wrong + " answers are not as due"));
        if (wrong != 0) {
            System.exit(1);
        }
    }
}
