/** What the tests of the promises share: telling a text, comparing, and the end with its exit code. */
final class Checks {
    private final String name;
    private int count = 0;
    private int wrong = 0;

    Checks(String name) {
        this.name = name;
    }

    void due(int promise, String call, int got, int want) {
        count++;
        if (got != want) {
            wrong++;
            System.out.println("promise " + promise + ": " + call + " answered " + got + ", due is " + want);
        }
    }

    void due(int promise, String call, boolean got, boolean want) {
        due(promise, call, got ? 1 : 0, want ? 1 : 0);
    }

    /** Puts a text on the TAPE, behind what is there. */
    static int feedText(SealCasts x, String text) {
        StringBuilder padded = new StringBuilder(text);
        while (padded.length() % 20 != 0) {
            padded.append(' ');
        }
        int end = x.about(11) + text.length();
        for (int at = 0; at < padded.length(); at += 20) {
            int[] n = new int[5];
            for (int i = 0; i < 20; i++) {
                n[i / 4] = n[i / 4] << 8 | padded.charAt(at + i) & 255;
            }
            x.feed(n[0], n[1], n[2], n[3], n[4]);
        }
        return x.end(end);
    }

    /** A new object with a CHANCERY. */
    SealCasts told(String text) {
        SealCasts x = new SealCasts();
        feedText(x, text);
        if (x.chancery() < 0) {
            wrong++;
            System.out.println("fault " + x.fault(0) + " at " + x.fault(1) + " in: " + text);
        }
        return x;
    }

    /** A text with a FAULT, which leaves all as it was. */
    void fault(String text, int kind, int place) {
        SealCasts x = new SealCasts();
        feedText(x, text);
        due(4, "chancery of " + text, x.chancery(), SealCasts.NONE);
        due(5, "fault(0) of " + text, x.fault(0), kind);
        due(5, "fault(1) of " + text, x.fault(1), place);
        due(4, "about(0) behind " + text, x.about(0), 0);
        due(4, "about(11) behind " + text, x.about(11), text.length());
    }

    /** A text without one. */
    void fine(String text, int hands, int units) {
        SealCasts x = new SealCasts();
        feedText(x, text);
        due(4, "chancery of " + text, x.chancery(), hands);
        due(5, "fault(0) of " + text, x.fault(0), 0);
        due(5, "fault(1) of " + text, x.fault(1), SealCasts.NONE);
        due(52, "about(12) of " + text, x.about(12), units);
    }

    /** What lies there has to be just this. */
    void lies(int promise, SealCasts x, int... numbers) {
        due(52, "about(13)", x.about(13), numbers.length);
        for (int i = 0; i < numbers.length; i++) {
            due(promise, "lies(" + i + ")", x.lies(i), numbers[i]);
        }
        due(49, "lies(" + numbers.length + ")", x.lies(numbers.length), -2);
        due(49, "lies(-1)", x.lies(-1), -2);
    }

    void end() {
        System.out.println(name + ": " + (wrong == 0 ? count + " answers as due" : wrong + " answers are not as due"));
        if (wrong != 0) {
            System.exit(1);
        }
    }
}
