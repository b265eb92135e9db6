import java.util.LinkedHashMap;
import java.util.Map;
import java.util.function.ToLongFunction;

/** The boundaries that the document names for fractions, the fixed rule, gains and prices: a test for each sentence. */
public final class FractionEdgesTest {
    private static final long BAD_FRACTION = StoppingPlanner.BAD_FRACTION;
    private static final String FIXED = "The fixed rule with h (0 to 99): each candidate with a value of at least h is"
        + " chosen, until no choice is left or no candidate; each observation costs c, nobody recalls, and nobody"
        + " quits as long as a choice is left and a candidate comes.";
    private static final Checks c = new Checks("FractionEdgesTest");

    public static void main(String[] args) {
        lowestTerms();
        zeroAndNegatives();
        greatestFractions();
        fixedAtLeast();
        fixedUntilNoChoiceIsLeft();
        fixedNeverRecalls();
        fixedNeverQuits();
        fixedRange();
        fixedRefuses();
        bestFixedIsTheSmallest();
        recallGainOfNothing();
        recallGainChangesNothing();
        priceOfWhat();
        priceOfOneMore();
        priceChangesNothing();
        priceRefuses();
        denominatorOfTheLatest();
        badFractionIsNone();
        otherCallsReturnNone();
        c.end();
    }

    // ---- the description: fractions

    private static void lowestTerms() {
        c.sentence(0, "A method that returns a fraction returns its numerator; denominator() returns the denominator"
            + " of the latest fraction that was returned, which is in lowest terms with a positive denominator (0 is 0"
            + " / 1).");
        String[] texts = {
            "n7;k2;c3;p90 45 30 7 6 2 1;v3 9 27 81 99;w1 2 3 3 1;r7 9;", "n6;k1;c20;p99;r5 5;", "n1;k1;",
            "n4;k2;c13;p1 2 3 4;r3 8;",
            "n7;k1;c1;p0;v0 0 0 0 0;", "n5;k2;c19;v99 0 0 0 1;w1 9 0 0 0;"};
        for (String text : texts) {
            StoppingPlanner x = Checks.planner(text);
            int n = x.parameter(0);
            int k = x.parameter(1);
            for (int i = 1; i <= n; i++) {
                for (int r = 1; r <= i; r++) {
                    isLowest("worth of " + text, x.worth(i, r), x);
                }
                for (int j = 0; j <= k; j++) {
                    isLowest("rankValue of " + text, x.rankValue(i, j), x);
                    isLowest("situation of " + text, x.situation(i, j, 5, 5), x);
                    isLowest("situation of " + text, x.situation(i, j, 4, 3), x);
                    isLowest("situation of " + text, x.situation(n + 1, j, 1, i % 5), x);
                }
                isLowest("skipping of " + text, x.skipping(i), x);
            }
            for (int what = 0; what <= 2; what++) {
                isLowest("rankExpectation of " + text, x.rankExpectation(what), x);
            }
            for (int h = 0; h <= 99; h++) {
                isLowest("fixed of " + text, x.fixed(h), x);
            }
            isLowest("recallGain of " + text, x.recallGain(), x);
            isLowest("price of " + text, x.price(true), x);
            isLowest("price of " + text, x.price(false), x);
        }
    }

    private static void isLowest(String call, long numerator, StoppingPlanner x) {
        long denominator = x.denominator();
        c.due(call + " has a positive denominator", denominator > 0, true);
        c.due("the common divisor of " + call, commonDivisor(Math.abs(numerator), denominator), 1);
    }

    private static long commonDivisor(long a, long b) {
        return b == 0 ? a : commonDivisor(b, a % b);
    }

    private static void zeroAndNegatives() {
        c.sentence(0, "which is in lowest terms with a positive denominator (0 is 0 / 1).");
        StoppingPlanner x = Checks.planner("n7;p0;");
        x.fixed(30);
        c.due("denominator() before", x.denominator() > 1, true);
        c.fraction("worth(1, 1) of 0", x, x.worth(1, 1), 0, 1);
        x.fixed(30);
        c.fraction("rankValue(1, 1) of 0", x, x.rankValue(1, 1), 0, 1);
        x.fixed(30);
        c.fraction("rankExpectation(0) of 0", x, x.rankExpectation(0), 0, 1);
        x.fixed(30);
        c.fraction("skipping(3) of 0", x, x.skipping(3), 0, 1);
        x.fixed(30);
        c.fraction("situation(1, 0, 5, 5) of 0", x, x.situation(1, 0, 5, 5), 0, 1);
        x.fixed(30);
        c.fraction("recallGain() of 0", x, x.recallGain(), 0, 1);
        x.fixed(30);
        c.fraction("price(false) of 0", x, x.price(false), 0, 1);
        x.fixed(30);
        c.fraction("fixed(41) of 0", x, x.fixed(41), 0, 1);
        x = Checks.planner("n2;c5;v0 0 0 0 7;");
        // An observation brings 7 / 5 - 5; there is a second one with the chance 4 / 5.
        c.fraction("fixed(7), negative", x, x.fixed(7), -18 * 9, 25);
        c.fraction("fixed(8), negative", x, x.fixed(8), -10, 1);
        x = Checks.planner("n3;c20;p3 0 0;");
        // The second one is the best one so far, and worth 2, with the chance 1 / 2; else there is a third one.
        c.fraction("skipping(1), negative", x, x.skipping(1), -20 * 5 + 2 + 1, 2);
    }

    private static void greatestFractions() {
        c.sentence(0, "All results of the rank problem and of the value problem are exact fractions.");
        StoppingPlanner x = Checks.planner("n7;k3;p99 99 99 99 99 99 99;v99 99 99 99 99;r9 9;");
        c.fraction("V(1, 3)", x, x.rankValue(1, 3), 297, 1);
        c.fraction("S(1, 3, 5, 5)", x, x.situation(1, 3, 5, 5), 297, 1);
        c.fraction("S(1, 3, 4, 4)", x, x.situation(1, 3, 4, 4), 297, 1);
        c.fraction("fixed(99)", x, x.fixed(99), 297, 1);
        x = Checks.planner("n7;k3;c20;p0;v0 0 0 0 0;");
        c.fraction("skipping(7)", x, x.skipping(7), -140, 1);
        c.fraction("fixed(1)", x, x.fixed(1), -140, 1);
        // Each of 7 observations and 8 recalls divides by 10.
        Model model = new Model();
        String text = "n7;k3;v91 71 99 80 51;w1 1 1 6 1;r9 9;";
        x = Checks.planner(text);
        for (int at = 0; at < text.length(); at++) {
            model.type(text.charAt(at));
        }
        model.load();
        for (int j = 1; j <= 3; j++) {
            for (int a = 0; a <= 5; a++) {
                for (int b = 0; b <= 5; b++) {
                    c.due("S(1, j, a, b)", x.situation(1, j, a, b), model.situation(1, j, a, b));
                    c.due("denominator()", x.denominator(), model.denominator());
                }
            }
        }
        c.fraction("S(1, 3, 2, 2)", x, x.situation(1, 3, 2, 2), 286718639272243717L, 1000000000000000L);
    }

    // ---- the description: the fixed rule

    private static void fixedAtLeast() {
        c.sentence(0, FIXED);
        for (int value = 0; value <= 99; value++) {
            StoppingPlanner x = Checks.planner("n1;w0 0 10 0 0;");
            x.setLevel(2, value);
            c.fraction("fixed(h) where h is the value", x, x.fixed(value), value, 1);
            if (value < 99) {
                c.fraction("fixed(h) where h is the value and 1", x, x.fixed(value + 1), 0, 1);
            }
            if (value > 0) {
                c.fraction("fixed(h) where h and 1 is the value", x, x.fixed(value - 1), value, 1);
            }
            c.fraction("fixed(0)", x, x.fixed(0), value, 1);
            c.fraction("fixed(99)", x, x.fixed(99), value == 99 ? 99 : 0, 1);
        }
    }

    private static void fixedUntilNoChoiceIsLeft() {
        c.sentence(0, "each candidate with a value of at least h is chosen, until no choice is left or no candidate;"
            + " each observation costs c,");
        for (int n = 1; n <= 7; n++) {
            for (int k = 1; k <= 3; k++) {
                StoppingPlanner x = Checks.planner("n" + n + ";k" + k + ";c5;v9 9 9 9 9;");
                c.fraction("fixed(9): all are chosen", x, x.fixed(9), 4 * Math.min(n, k), 1);
                c.fraction("fixed(10): nobody is chosen", x, x.fixed(10), -5 * n, 1);
            }
        }
        StoppingPlanner x = Checks.planner("n2;k1;c2;v0 0 0 0 50;w8 0 0 0 2;");
        // An observation brings 10 - 2; there is a second one with the chance 4 / 5.
        c.fraction("fixed(50)", x, x.fixed(50), 8 * 9, 5);
    }

    private static void fixedNeverRecalls() {
        c.sentence(0, "nobody recalls,");
        StoppingPlanner x = Checks.planner("n3;k2;");
        long[] without = new long[100];
        for (int h = 0; h <= 99; h++) {
            without[h] = x.fixed(h);
        }
        x.setRecall(1, 10);
        x.setRecall(2, 10);
        for (int h = 0; h <= 99; h++) {
            c.due("fixed(" + h + ") with recall chances", x.fixed(h), without[h]);
        }
        c.fraction("fixed(41)", x, x.fixed(41), 0, 1);
    }

    private static void fixedNeverQuits() {
        c.sentence(0, "and nobody quits as long as a choice is left and a candidate comes.");
        for (int n = 1; n <= 7; n++) {
            StoppingPlanner x = Checks.planner("n" + n + ";k3;c20;");
            c.fraction("the best policy quits", x, x.situation(1, 3, 5, 5), 0, 1);
            c.fraction("fixed(99)", x, x.fixed(99), -20 * n, 1);
            x.setLevel(4, 35);
            // The mean is 19 then: all who are chosen bring less than they cost.
            c.fraction("fixed(0)", x, x.fixed(0), -Math.min(n, 3), 1);
        }
    }

    // ---- promises 24 to 27

    private static void fixedRange() {
        c.sentence(24, "- `h`: 0 to 99");
        StoppingPlanner x = new StoppingPlanner();
        c.range("fixed(h)", 0, 99, BAD_FRACTION, x::fixed);
    }

    private static void fixedRefuses() {
        c.sentence(24, "Returns the numerator; BAD_FRACTION if h is out of range.");
        StoppingPlanner x = Checks.planner("n1;v0 0 0 0 99;w0 0 0 7 3;");
        c.due("fixed(-1)", x.fixed(-1), BAD_FRACTION);
        c.due("fixed(100)", x.fixed(100), BAD_FRACTION);
        c.due("denominator() where no fraction was returned", x.denominator(), 1);
        c.fraction("fixed(0)", x, x.fixed(0), 297, 10);
        c.fraction("fixed(99)", x, x.fixed(99), 297, 10);
        c.due("fixed(100)", x.fixed(100), BAD_FRACTION);
        c.due("denominator()", x.denominator(), 10);
    }

    private static void bestFixedIsTheSmallest() {
        c.sentence(25, "Returns the h for which fixed() is greatest, the smallest one of several.");
        c.due("bestFixed() of one candidate", Checks.planner("n1;").bestFixed(), 0);
        c.due("bestFixed() of equal values", Checks.planner("n7;v99 99 99 99 99;").bestFixed(), 0);
        c.due("bestFixed() of values of 0", Checks.planner("n7;v0 0 0 0 0;").bestFixed(), 0);
        for (int value = 0; value <= 98; value++) {
            // One waits for 99, which comes soon: the smallest h is the one above the other value.
            int level = value % 5;
            StoppingPlanner x = Checks.planner("n7;v99 99 99 99 99;");
            x.setLevel(level, value);
            x.shiftWeight(level, (level + 1) % 5, 1);
            c.due("bestFixed() of 99 and " + value, x.bestFixed(), value + 1);
        }
        String[] texts = {
            "n5;k1;", "n7;k3;c4;v99 1 50 7 20;w1 4 1 2 2;", "n2;k2;c20;", "n3;k1;v40 30 20 10 0;",
            "n7;k2;c1;v5 5 6 6 7;",
            "n4;k3;v0 0 1 1 1;c20;"};
        for (String text : texts) {
            isTheSmallestBest(text, Checks.planner(text));
        }
    }

    private static void isTheSmallestBest(String text, StoppingPlanner x) {
        int best = x.bestFixed();
        Model.Fraction most = Model.Fraction.of(x.fixed(best), x.denominator());
        for (int h = 0; h <= 99; h++) {
            int comparison = most.compareTo(Model.Fraction.of(x.fixed(h), x.denominator()));
            c.due("fixed(" + best + ") is better than fixed(" + h + ") of " + text,
                h < best ? comparison > 0 : comparison >= 0, true);
        }
    }

    private static void recallGainOfNothing() {
        c.sentence(26, "Returns the gain by recalls, as a fraction: S(1, k, 5, 5) minus what it would be if both"
            + " recall chances were 0.");
        StoppingPlanner x = Checks.planner("n2;");
        c.fraction("recallGain() without chances", x, x.recallGain(), 0, 1);
        x.setRecall(2, 10);
        c.fraction("recallGain(): the better one of two instead of 26", x, x.recallGain(), 2, 1);
        x.setRecall(1, 10);
        c.fraction("recallGain(): both chances count as 0", x, x.recallGain(), 2, 1);
        x.setRecall(2, 0);
        c.fraction("recallGain(): age 1 brings nothing", x, x.recallGain(), 0, 1);
        // The order of the levels does not matter, and nobody is remembered at first.
        x = Checks.planner("n2;v40 30 20 10 0;r10 10;");
        c.fraction("recallGain() with the greatest level first", x, x.recallGain(), 2, 1);
        x = Checks.planner("n1;k3;r10 10;");
        c.fraction("recallGain() of one candidate", x, x.recallGain(), 0, 1);
        x = Checks.planner("n7;k3;c20;r10 10;");
        c.fraction("recallGain() of who quits", x, x.recallGain(), 0, 1);
    }

    private static void recallGainChangesNothing() {
        c.sentence(26, "Nothing changes.");
        StoppingPlanner x = Checks.planner("n4;k2;r6 9;");
        StoppingPlanner untouched = Checks.planner("n4;k2;r6 9;");
        for (int time = 1; time <= 3; time++) {
            c.due("recallGain() is not 0", x.recallGain() > 0, true);
            same("recallGain()", x, untouched);
        }
    }

    private static void same(String call, StoppingPlanner x, StoppingPlanner untouched) {
        for (int what = 0; what <= 21; what++) {
            c.due("parameter(" + what + ") after " + call, x.parameter(what), untouched.parameter(what));
        }
        c.due("digest() after " + call, x.digest(), untouched.digest());
        c.due("situation(1, 2, 5, 5) after " + call, x.situation(1, 2, 5, 5), untouched.situation(1, 2, 5, 5));
        c.due("situation(5, 1, 4, 3) after " + call, x.situation(5, 1, 4, 3), untouched.situation(5, 1, 4, 3));
        c.due("rankValue(1, 2) after " + call, x.rankValue(1, 2), untouched.rankValue(1, 2));
        c.due("rankValue(1, 3) after " + call, x.rankValue(1, 3), untouched.rankValue(1, 3));
        c.due("count(1) after " + call, x.count(1), untouched.count(1));
    }

    private static void priceOfWhat() {
        c.sentence(27, "- `values`: true for S(1, k, 5, 5), false for V(1, k)");
        StoppingPlanner x = Checks.planner("n2;p50;");
        c.fraction("price(true): 40 instead of 26", x, x.price(true), 14, 1);
        c.fraction("price(false): all of 50 instead of its half", x, x.price(false), 25, 1);
        // The order of the levels does not matter, and nobody is remembered at first.
        x = Checks.planner("n2;v40 30 20 10 0;r10 10;");
        c.fraction("price(true) with the greatest level first", x, x.price(true), 12, 1);
        x = Checks.planner("n2;p0;");
        c.fraction("price(true) without payoffs", x, x.price(true), 14, 1);
        c.fraction("price(false) without payoffs", x, x.price(false), 0, 1);
        x = Checks.planner("n2;p50;v0 0 0 0 0;");
        c.fraction("price(true) without values", x, x.price(true), 0, 1);
        c.fraction("price(false) without values", x, x.price(false), 25, 1);
    }

    private static void priceOfOneMore() {
        c.sentence(27, "Returns the numerator of the value with k + 1 choices minus that with k choices;");
        String[] texts = {"n1;", "n2;r0 10;", "n5;", "n7;c3;p90 80 70;r5 9;", "n3;c20;p0;"};
        for (String text : texts) {
            StoppingPlanner x = Checks.planner(text);
            StoppingPlanner three = Checks.planner(text);
            three.setCount(1, 3);
            for (int k = 1; k <= 2; k++) {
                x.setCount(1, k);
                Model.Fraction price = Model.Fraction.of(x.price(true), x.denominator());
                Model.Fraction more = Model.Fraction.of(three.situation(1, k + 1, 5, 5), three.denominator());
                Model.Fraction now = Model.Fraction.of(three.situation(1, k, 5, 5), three.denominator());
                c.due("price(true) with " + k + ", " + text, price.compareTo(more.minus(now)), 0);
                price = Model.Fraction.of(x.price(false), x.denominator());
                more = Model.Fraction.of(three.rankValue(1, k + 1), three.denominator());
                now = Model.Fraction.of(three.rankValue(1, k), three.denominator());
                c.due("price(false) with " + k + ", " + text, price.compareTo(more.minus(now)), 0);
            }
        }
        for (int n = 1; n <= 2; n++) {
            StoppingPlanner x = Checks.planner("n" + n + ";k" + n + ";p50;");
            c.fraction("price(true) of a choice too many", x, x.price(true), 0, 1);
            c.fraction("price(false) of a choice too many", x, x.price(false), 0, 1);
        }
    }

    private static void priceChangesNothing() {
        c.sentence(27, "Nothing changes.");
        StoppingPlanner x = Checks.planner("n4;k2;r6 9;");
        StoppingPlanner untouched = Checks.planner("n4;k2;r6 9;");
        for (int time = 1; time <= 3; time++) {
            c.due("price(true) is not 0", x.price(true) > 0, true);
            same("price(true)", x, untouched);
            c.due("price(false) is not 0", x.price(false) > 0, true);
            same("price(false)", x, untouched);
        }
        c.due("rankValue(1, 3): there are 2 choices", x.rankValue(1, 3), BAD_FRACTION);
        c.due("situation(1, 3, 5, 5): there are 2 choices", x.situation(1, 3, 5, 5), BAD_FRACTION);
    }

    private static void priceRefuses() {
        c.sentence(27, "BAD_FRACTION if k is 3.");
        for (int n = 1; n <= 7; n++) {
            StoppingPlanner x = Checks.planner("n" + n + ";k2;");
            c.due("price(true) with 2", x.price(true) >= 0, true);
            c.due("price(false) with 2", x.price(false) >= 0, true);
            x.setCount(1, 3);
            c.due("price(true) with 3", x.price(true), BAD_FRACTION);
            c.due("price(false) with 3", x.price(false), BAD_FRACTION);
            x.setCount(1, 1);
            c.due("price(true) with 1", x.price(true) >= 0, true);
            c.due("price(false) with 1", x.price(false) >= 0, true);
        }
    }

    // ---- promise 28: denominator

    private static void denominatorOfTheLatest() {
        c.sentence(28, "Returns the denominator; 1 if there was none.");
        StoppingPlanner x = new StoppingPlanner();
        c.due("denominator() of a new object", x.denominator(), 1);
        x = Checks.planner("n3;k2;c1;p99 50;r5 5;v0 10 20 30 45;");
        c.due("denominator() after changes", x.denominator(), 1);
        // Each of them has another denominator than the one before.
        c.fraction("worth(1, 1)", x, x.worth(1, 1), 149, 3);
        c.fraction("worth(3, 3)", x, x.worth(3, 3), 0, 1);
        c.fraction("rankValue(3, 1)", x, x.rankValue(3, 1), 149 - 3, 3);
        c.fraction("skipping(2)", x, x.skipping(2), 33 - 3, 1);
        c.fraction("skipping(1)", x, x.skipping(1), 124 + 99 - 9, 3);
        c.fraction("situation(3, 1, 5, 5)", x, x.situation(3, 1, 5, 5), 20, 1);
    }

    private static void badFractionIsNone() {
        c.sentence(28, "Returns the denominator of the latest fraction that was returned (BAD_FRACTION is no"
            + " fraction).");
        Map<String, ToLongFunction<StoppingPlanner>> calls = new LinkedHashMap<>();
        calls.put("worth(2, 3)", x -> x.worth(2, 3));
        calls.put("rankValue(7, 1)", x -> x.rankValue(7, 1));
        calls.put("rankExpectation(3)", x -> x.rankExpectation(3));
        calls.put("skipping(6)", x -> x.skipping(6));
        calls.put("situation(1, 1, 6, 5)", x -> x.situation(1, 1, 6, 5));
        calls.put("fixed(100)", x -> x.fixed(100));
        calls.put("price(true)", x -> x.price(true));
        calls.put("price(false)", x -> x.price(false));
        calls.forEach((name, call) -> {
            StoppingPlanner x = Checks.planner("k3;");
            c.due(name, call.applyAsLong(x), BAD_FRACTION);
            c.due("denominator() where there was no fraction but " + name, x.denominator(), 1);
            c.fraction("worth(3, 1)", x, x.worth(3, 1), 297, 5);
            c.due(name, call.applyAsLong(x), BAD_FRACTION);
            c.due("denominator() after " + name, x.denominator(), 5);
        });
    }

    private static void otherCallsReturnNone() {
        c.sentence(28, "Returns the denominator of the latest fraction that was returned");
        StoppingPlanner x = new StoppingPlanner();
        callAllOthers(x);
        c.due("denominator() after all calls without a fraction", x.denominator(), 1);
        x.worth(3, 1);
        callAllOthers(x);
        c.due("denominator() after all calls without a fraction", x.denominator(), 5);
        // Each method that returns a fraction sets it.
        Map<String, ToLongFunction<StoppingPlanner>> calls = new LinkedHashMap<>();
        calls.put("worth(5, 1)", y -> y.worth(5, 1));
        calls.put("rankValue(6, 0)", y -> y.rankValue(6, 0));
        calls.put("rankExpectation(1)", y -> y.rankExpectation(1));
        calls.put("skipping(5)", y -> y.skipping(5));
        calls.put("situation(5, 1, 5, 5)", y -> y.situation(5, 1, 5, 5));
        calls.put("fixed(41)", y -> y.fixed(41));
        calls.put("recallGain()", y -> y.recallGain());
        calls.forEach((name, call) -> {
            x.worth(3, 1);
            call.applyAsLong(x);
            c.due("denominator() after " + name, x.denominator(), 1);
        });
        x.worth(3, 1);
        c.fraction("price(false)", x, x.price(false), 1089, 40);
        c.fraction("price(true)", x, x.price(true), 7508 - 4176, 125);
    }

    private static void callAllOthers(StoppingPlanner x) {
        x.type('n');
        x.clearText();
        x.load();
        x.faultKind();
        x.setCount(0, 4);
        x.setPayoff(1, 98);
        x.setLevel(1, 11);
        x.setRecall(1, 1);
        x.shiftWeight(0, 1, 1);
        x.parameter(0);
        x.choosesRank(1, 1, 1);
        x.rankThreshold(1, 1);
        x.bestSkip();
        x.recalls(1, 1, 5, 5);
        x.observes(1, 1, 5, 5);
        x.choosesLevel(1, 1, 5, 0);
        x.valueThreshold(1, 1, 5);
        x.bestFixed();
        x.simulateRanks(1, 0);
        x.simulateValues(1, 0);
        x.count(3);
        x.digest();
        for (int change = 1; change <= 6; change++) {
            x.undo();
        }
    }
}
