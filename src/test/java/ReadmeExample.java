import java.io.IOException;
import java.nio.file.Files;
import java.nio.file.Path;

/** The example of README.md, run; and whether README.md still shows it as it stands here. */
public final class ReadmeExample {
    private static final Path HERE = Path.of("src/test/java/ReadmeExample.java");
    private static final Path README = Path.of("README.md");
    private static final String FROM = "    // ---- README from here\n";
    private static final String TO = "    // ---- README to here\n";
    private static int wrong = 0;

    // ---- README from here
    static int tellText(SealCasts x, String text) {
        int length = x.about(11) + text.length();
        for (int at = 0; at < text.length(); at += 20) {
            int[] n = new int[5];
            for (int i = 0; i < 20; i++) {
                char sign = at + i < text.length() ? text.charAt(at + i) : ' ';
                n[i / 4] = n[i / 4] << 8 | sign & 255;      // of each number the highest byte first
            }
            x.feed(n[0], n[1], n[2], n[3], n[4]);
        }
        x.end(length);                                      // cuts off what filled up the last twenty
        return x.chancery();
    }

    static void example() {
        SealCasts x = new SealCasts();

        // A text with a FAULT changes nothing, but it stays on the TAPE.
        due(tellText(x, "marks 13;"), SealCasts.NONE);
        due(x.fault(0), 4);                                 // a number that can't be
        due(x.fault(1), 6);                                 // its place
        due(x.end(0), 0);

        due(tellText(x, "marks 4; first 0 1; wax 20; draw 7;"
            + "hand smith wears mark = 0 fills 0;"
            + "hand monk wears 0 fills left and heat;"), 2);  // HANDS

        // ACTS in earnest.
        due(x.cast(0, 0, 0), 1);                            // SEAL 1, by smith
        due(x.seal(1, 0), 12);                              // its ROW: MARKS 2 and 3
        due(x.cast(1, 1, 1), 2);                            // SEAL 2, of SEAL 1 by monk at HEAT 1
        due(x.seal(2, 0), 7);
        due(x.print(2), 0);                                 // PRINT 0
        due(x.shown(0, 0), 14);                             // the ROW of SEAL 2, TURNED
        due(x.about(4), 16);                                // wax that is left
        due(x.image(0), 3);                                 // three SEALS are kept in BOX 0
        due(x.year(), 1);
        due(x.crack(2, 0), true);
        due(x.undo(), true);                                // SEAL 2 has MARK 0 again
        due(x.redo(), true);

        // Questions; nothing is done.
        due(x.would(12, 1, 1, 0), 7);
        due(x.whose(1, 1, 7), 2);                           // as bits: HAND 1
        due(x.made(4, 1), 5);                               // as bits: SEALS 0 and 2
        due(x.tell(), 2);                                   // two MARKS tell all SEALS apart
        due(x.lies(0), 0);                                  // these two
        due(x.lies(1), 1);
        due(x.lies(2), -2);                                 // no more lies there
        due(x.wax(7), 2);                                   // the least wax for a ROW
        due(x.lies(0), 1);                                  // from SEAL 1
        due(x.lies(1), 11);                                 // by HAND 1 at HEAT 1

        // FACTS, and what is known by them, now and at an earlier TIME.
        due(x.sample(3, false), 0);
        due(x.sample(14, false), 1);
        due(x.claim(15, 2, 0), 2);
        due(x.later(5), 5);
        due(x.untell(2), true);
        due(x.tree(0, 0, 5), 2);                            // CHANGES from SAMPLE 0 to SAMPLE 1
        due(x.falses(4), 1);                                // the CLAIM, as known at 4
        due(x.falses(5), 0);                                // not at 5, when it is UNTOLD

        due(x.back(0), 3);                                  // all as it was kept
        due(x.seal(2, 0), 7);
    }
    // ---- README to here

    public static void main(String[] args) throws IOException {
        example();
        String source = Files.readString(HERE);
        String shown = source.substring(source.indexOf("\n" + FROM) + 1 + FROM.length(), source.indexOf("\n" + TO) + 1);
        if (!Files.readString(README).contains(shown.stripTrailing().stripIndent())) {
            wrong++;
            System.out.println("README.md shows another example than this one");
        }
        System.out.println("ReadmeExample: " + (wrong == 0 ? "as due" : wrong + " are not as due"));
        if (wrong != 0) {
            System.exit(1);
        }
    }

    private static void due(int got, int want) {
        if (got != want) {
            wrong++;
            int line = new Throwable().getStackTrace()[1].getLineNumber();
            System.out.println("line " + line + ": answered " + got + ", due is " + want);
        }
    }

    private static void due(boolean got, boolean want) {
        if (got != want) {
            wrong++;
            int line = new Throwable().getStackTrace()[1].getLineNumber();
            System.out.println("line " + line + ": answered " + got + ", due is " + want);
        }
    }
}
