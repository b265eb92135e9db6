/** Counts and prints the calls whose answer is not the one that is due. */
final class Checks {
    private final String test;
    private int promise;
    private int asked;
    private int wrong;

    Checks(String test) {
        this.test = test;
    }

    /** The calls that follow test this promise. */
    void promise(int number) {
        promise = number;
    }

    void due(String call, long got, long want) {
        asked++;
        if (got != want) {
            wrong++;
            if (wrong <= 50) {
                System.out.println(test + ", promise " + promise + ": " + call
                    + " answered " + got + ", due is " + want);
            }
        }
    }

    void due(String call, boolean got, boolean want) {
        due(call, got ? 1 : 0, want ? 1 : 0);
    }

    /** A fraction that has just been returned by a call on this planner. */
    void fraction(String call, StoppingPlanner x, long numerator, long wantNumerator, long wantDenominator) {
        due(call, numerator, wantNumerator);
        due("denominator() after " + call, x.denominator(), wantDenominator);
    }

    void end() {
        System.out.println(test + ": " + asked + " answers, " + wrong + " wrong");
        if (wrong != 0) {
            System.exit(1);
        }
    }

    /** A planner that has loaded this text. */
    static StoppingPlanner planner(String text) {
        StoppingPlanner x = new StoppingPlanner();
        typeText(x, text);
        x.load();
        return x;
    }

    static void typeText(StoppingPlanner x, String text) {
        x.clearText();
        for (int at = 0; at < text.length(); at++) {
            x.type(text.charAt(at));
        }
    }
}
