import java.io.IOException;
import java.io.UncheckedIOException;
import java.nio.file.Files;
import java.nio.file.Path;
import java.util.function.IntToLongFunction;

/** Counts and prints the calls whose answer is not the one that is due. */
final class Checks {
    private static final Path DOCUMENT = Path.of("../shared/DOC.md");
    /** Far from every range of the document; some of them come near to one when they are cut off or multiplied. */
    private static final int[] FAR = {
        Integer.MIN_VALUE, Integer.MIN_VALUE + 1, -1 << 30, -65536, -1000, -256, 256, 257, 1000, 65536, 65537,
        1 << 30, (1 << 30) + 1, Integer.MAX_VALUE - 1, Integer.MAX_VALUE};
    private static String document;

    private final String test;
    private int promise;
    private String sentence = "";
    private int asked;
    private int wrong;

    Checks(String test) {
        this.test = test;
    }

    /** The calls that follow test this promise. */
    void promise(int number) {
        promise = number;
        sentence = "";
    }

    /** The calls that follow test this sentence of a promise, or, with 0, of the document's description. */
    void sentence(int number, String words) {
        promise = number;
        sentence = " \"" + words + "\"";
        // A sentence that was changed in the document needs another test, perhaps.
        due("the document says so", document().isEmpty() || document().contains(words), true);
    }

    void due(String call, long got, long want) {
        asked++;
        if (got != want) {
            wrong++;
            if (wrong <= 50) {
                System.out.println(test + ", promise " + promise + sentence + ": " + call
                    + " answered " + got + ", due is " + want);
            }
        }
    }

    void due(String call, boolean got, boolean want) {
        due(call, got ? 1 : 0, want ? 1 : 0);
    }

    /** A fraction that has just been returned by a call on this planner. */
    void fraction(String call, StoppingPlanner x, long numerator, long wantNumerator, long wantDenominator) {
        due(call, numerator, wantNumerator);
        due("denominator() after " + call, x.denominator(), wantDenominator);
    }

    /** Only numbers from least to most are not refused. */
    void range(String call, int least, int most, long refusal, IntToLongFunction answer) {
        for (int number = least; number <= most; number++) {
            due(call + " with " + number + " is refused", answer.applyAsLong(number) == refusal, false);
        }
        due(call + " with " + (least - 1), answer.applyAsLong(least - 1), refusal);
        due(call + " with " + (most + 1), answer.applyAsLong(most + 1), refusal);
        for (int number : FAR) {
            due(call + " with " + number, answer.applyAsLong(number), refusal);
        }
    }

    void end() {
        System.out.println(test + ": " + asked + " answers, " + wrong + " wrong");
        if (wrong != 0) {
            System.exit(1);
        }
    }

    /** A planner that has loaded this text, which must be without a fault. */
    static StoppingPlanner planner(String text) {
        StoppingPlanner x = new StoppingPlanner();
        int items = answerToText(x, text);
        if (items < 0) {
            throw new IllegalStateException("load() of '" + text + "' answered " + items);
        }
        return x;
    }

    static void typeText(StoppingPlanner x, String text) {
        x.clearText();
        for (int at = 0; at < text.length(); at++) {
            x.type(text.charAt(at));
        }
    }

    /** What load() answers to this text. */
    static int answerToText(StoppingPlanner x, String text) {
        typeText(x, text);
        return x.load();
    }

    /** The document in one line, or nothing if it is not there. */
    private static String document() {
        if (document == null) {
            try {
                document = Files.exists(DOCUMENT) ? Files.readString(DOCUMENT).replaceAll("\\s+", " ") : "";
            } catch (IOException e) {
                throw new UncheckedIOException(e);
            }
        }
        return document;
    }
}
