/** Promises 19 to 28: the value problem and denominator(), mostly with numbers that can be found by hand. */
public final class ValueProblemTest {
    private static final long BAD_FRACTION = StoppingPlanner.BAD_FRACTION;
    private static final int BAD = StoppingPlanner.BAD;
    private static final int NONE = StoppingPlanner.NONE;
    private static final int[] ODD = {Integer.MIN_VALUE, -1000, -1, 100, 1000, Integer.MAX_VALUE};
    private static final Checks c = new Checks("ValueProblemTest");

    public static void main(String[] args) {
        situation();
        recalls();
        observes();
        choosesLevel();
        valueThreshold();
        fixed();
        bestFixed();
        recallGain();
        price();
        denominator();
        greatestNumbers();
        c.end();
    }

    private static void situation() {
        c.promise(19);
        StoppingPlanner x = Checks.planner("n2;");
        c.fraction("situation(2, 1, 5, 5)", x, x.situation(2, 1, 5, 5), 20, 1);
        c.fraction("situation(1, 1, 5, 5)", x, x.situation(1, 1, 5, 5), 26, 1);
        c.fraction("situation(3, 1, 4, 4) without recall", x, x.situation(3, 1, 4, 4), 0, 1);
        x.setRecall(2, 10);
        // Both are observed, and the better one is chosen: at once, or by a recall.
        c.fraction("situation(1, 1, 5, 5)", x, x.situation(1, 1, 5, 5), 28, 1);
        c.fraction("situation(3, 1, 4, 1)", x, x.situation(3, 1, 4, 1), 10, 1);
        c.fraction("situation(3, 1, 4, 5)", x, x.situation(3, 1, 4, 5), 0, 1);
        x.setRecall(1, 7);
        c.fraction("situation(3, 1, 4, 1)", x, x.situation(3, 1, 4, 1), 28, 1);
        c.fraction("situation(3, 1, 1, 4)", x, x.situation(3, 1, 1, 4), 40, 1);
        c.fraction("situation(3, 1, 3, 5)", x, x.situation(3, 1, 3, 5), 21, 1);
        c.fraction("situation(3, 0, 3, 4)", x, x.situation(3, 0, 3, 4), 0, 1);
        x = Checks.planner("n1;r7 3;k2;v0 10 20 30 45;");
        // the recall of 45 now, then candidate 2's mean of 21, or the recalls one after the other
        c.fraction("situation(1, 2, 4, 5)", x, x.situation(1, 2, 4, 5), 63 + 42, 2);
        c.fraction("situation(1, 1, 5, 4)", x, x.situation(1, 1, 5, 4), 141, 5);
        wrongSituations(x);
    }

    private static void wrongSituations(StoppingPlanner x) {
        long denominator = x.denominator();
        int[][] wrong = {{0, 1, 5, 5}, {3, 1, 5, 5}, {1, -1, 5, 5}, {1, 3, 5, 5}, {1, 1, -1, 5}, {1, 1, 6, 5},
            {1, 1, 5, -1}, {1, 1, 5, 6}};
        for (int[] w : wrong) {
            c.promise(19);
            c.due("situation of wrong arguments", x.situation(w[0], w[1], w[2], w[3]), BAD_FRACTION);
            c.promise(20);
            c.due("recalls of wrong arguments", x.recalls(w[0], w[1], w[2], w[3]), BAD);
            c.promise(21);
            c.due("observes of wrong arguments", x.observes(w[0], w[1], w[2], w[3]), BAD);
        }
        for (int odd : ODD) {
            for (int at = 0; at < 4; at++) {
                int[] w = {1, 1, 5, 5};
                w[at] = odd;
                c.promise(19);
                c.due("situation with " + odd, x.situation(w[0], w[1], w[2], w[3]), BAD_FRACTION);
                c.promise(20);
                c.due("recalls with " + odd, x.recalls(w[0], w[1], w[2], w[3]), BAD);
                c.promise(21);
                c.due("observes with " + odd, x.observes(w[0], w[1], w[2], w[3]), BAD);
            }
        }
        c.due("denominator()", x.denominator(), denominator);
    }

    private static void recalls() {
        c.promise(20);
        StoppingPlanner x = Checks.planner("n2;k2;r5 5;");
        c.due("recalls(3, 1, 4, 3)", x.recalls(3, 1, 4, 3), 1);
        c.due("recalls(3, 1, 3, 4)", x.recalls(3, 1, 3, 4), 2);
        c.due("recalls(3, 1, 3, 3): equal ones", x.recalls(3, 1, 3, 3), 1);
        c.due("recalls(3, 1, 0, 0): nothing to win", x.recalls(3, 1, 0, 0), 0);
        c.due("recalls(3, 1, 0, 1)", x.recalls(3, 1, 0, 1), 2);
        c.due("recalls(3, 1, 5, 1)", x.recalls(3, 1, 5, 1), 2);
        c.due("recalls(3, 1, 1, 5)", x.recalls(3, 1, 1, 5), 1);
        c.due("recalls(3, 1, 5, 5)", x.recalls(3, 1, 5, 5), 0);
        c.due("recalls(3, 0, 4, 4)", x.recalls(3, 0, 4, 4), 0);
        // 30 for sure is better than the 26 of going on, and 20 is not.
        c.due("recalls(1, 1, 3, 5)", Checks.planner("n2;r10 0;").recalls(1, 1, 3, 5), 1);
        c.due("recalls(1, 1, 2, 5)", Checks.planner("n2;r10 0;").recalls(1, 1, 2, 5), 0);
        c.due("recalls(3, 1, 4, 4) without chances", Checks.planner("n2;").recalls(3, 1, 4, 4), 0);
        // An age 1 that can be recalled at the age 2 as surely is not recalled before it must be.
        x = Checks.planner("n2;r10 10;");
        c.due("recalls(2, 1, 2, 5)", x.recalls(2, 1, 2, 5), 0);
        c.due("recalls(3, 1, 1, 2)", x.recalls(3, 1, 1, 2), 2);
    }

    private static void observes() {
        c.promise(21);
        StoppingPlanner x = Checks.planner("n2;c19;");
        c.due("observes(1, 1, 5, 5)", x.observes(1, 1, 5, 5), 1);
        c.due("observes(2, 1, 5, 5)", x.observes(2, 1, 5, 5), 1);
        c.due("observes(3, 1, 5, 5)", x.observes(3, 1, 5, 5), 0);
        c.due("observes(2, 0, 5, 5)", x.observes(2, 0, 5, 5), 0);
        x.setCount(2, 20);
        c.due("observes(2, 1, 5, 5): a value of 0", x.observes(2, 1, 5, 5), 0);
        // With age 1 now, a candidate can still be recalled after the last observation.
        x = Checks.planner("n2;c20;r0 10;");
        c.due("observes(2, 1, 5, 5)", x.observes(2, 1, 5, 5), 0);
        c.due("observes(2, 1, 1, 5)", x.observes(2, 1, 1, 5), 1);
        c.due("observes(2, 1, 5, 4)", x.observes(2, 1, 5, 4), 0);
    }

    private static void choosesLevel() {
        c.promise(22);
        StoppingPlanner x = Checks.planner("n2;");
        c.due("choosesLevel(1, 1, 5, 1)", x.choosesLevel(1, 1, 5, 1), 0);
        c.due("choosesLevel(1, 1, 5, 2): as good as passing", x.choosesLevel(1, 1, 5, 2), 1);
        c.due("choosesLevel(1, 1, 5, 3)", x.choosesLevel(1, 1, 5, 3), 1);
        c.due("choosesLevel(2, 1, 5, 0)", x.choosesLevel(2, 1, 5, 0), 1);
        x.setRecall(2, 10);
        c.due("choosesLevel(1, 1, 5, 3)", x.choosesLevel(1, 1, 5, 3), 0);
        c.due("choosesLevel(1, 1, 5, 4)", x.choosesLevel(1, 1, 5, 4), 1);
        c.due("choosesLevel(2, 1, 3, 2)", x.choosesLevel(2, 1, 3, 2), 0);
        c.due("choosesLevel(2, 1, 3, 3)", x.choosesLevel(2, 1, 3, 3), 1);
        x = Checks.planner("n2;w0 0 0 0 10;");
        c.due("choosesLevel(1, 1, 5, 3): a level without weight", x.choosesLevel(1, 1, 5, 3), 0);
        int[][] wrong = {{0, 1, 5, 0}, {3, 1, 5, 0}, {1, 0, 5, 0}, {1, 2, 5, 0}, {1, 1, -1, 0}, {1, 1, 6, 0},
            {1, 1, 5, -1}, {1, 1, 5, 5}};
        for (int[] w : wrong) {
            c.due("choosesLevel of wrong arguments", x.choosesLevel(w[0], w[1], w[2], w[3]), BAD);
        }
        for (int odd : ODD) {
            for (int at = 0; at < 4; at++) {
                int[] w = {1, 1, 5, 0};
                w[at] = odd;
                c.due("choosesLevel with " + odd, x.choosesLevel(w[0], w[1], w[2], w[3]), BAD);
            }
        }
    }

    private static void valueThreshold() {
        c.promise(23);
        StoppingPlanner x = Checks.planner("n2;");
        c.due("valueThreshold(1, 1, 5)", x.valueThreshold(1, 1, 5), 20);
        c.due("valueThreshold(2, 1, 5)", x.valueThreshold(2, 1, 5), 0);
        x.setRecall(2, 10);
        c.due("valueThreshold(1, 1, 5)", x.valueThreshold(1, 1, 5), 40);
        c.due("valueThreshold(2, 1, 3)", x.valueThreshold(2, 1, 3), 30);
        // The levels need not be in the order of their values.
        c.due("valueThreshold(1, 1, 5)", Checks.planner("n2;v30 40 20 0 10;").valueThreshold(1, 1, 5), 20);
        // Only 0 and 1 come, and a 99 is remembered, which is recalled for sure.
        x = Checks.planner("n2;v0 1 0 1 99;w5 5 0 0 0;r10 10;");
        c.due("valueThreshold(2, 1, 4)", x.valueThreshold(2, 1, 4), 99);
        x = Checks.planner("n3;v9 9 9 9 9;r10 10;");
        c.due("valueThreshold(1, 1, 5): equal ones, recalled for sure", x.valueThreshold(1, 1, 5), 9);
        // A level without a weight counts, too: 20 is as good as the mean that follows.
        x = Checks.planner("n2;v20 0 40 0 40;w0 5 5 0 0;");
        c.due("valueThreshold(1, 1, 5): without weight", x.valueThreshold(1, 1, 5), 20);
        greatestLevelIsChosen();
        int[][] wrong = {{0, 1, 5}, {3, 1, 5}, {1, 0, 5}, {1, 2, 5}, {1, 1, -1}, {1, 1, 6}};
        for (int[] w : wrong) {
            c.due("valueThreshold of wrong arguments", x.valueThreshold(w[0], w[1], w[2]), BAD);
        }
        for (int odd : ODD) {
            for (int at = 0; at < 3; at++) {
                int[] w = {1, 1, 5};
                w[at] = odd;
                c.due("valueThreshold with " + odd, x.valueThreshold(w[0], w[1], w[2]), BAD);
            }
        }
    }

    /** NONE never comes: no later chance is worth more than the greatest value at once. */
    private static void greatestLevelIsChosen() {
        String[] texts = {"n7;k1;r10 10;", "n6;k3;v5 99 3 0 1;w4 0 3 2 1;r9 10;", "n4;k2;v0 0 0 0 0;r10 10;c20;"};
        for (String text : texts) {
            StoppingPlanner x = Checks.planner(text);
            int greatest = text.contains("v5") ? 1 : 4;
            for (int i = 1; i <= x.parameter(0); i++) {
                for (int j = 1; j <= x.parameter(1); j++) {
                    for (int a = 0; a <= 5; a++) {
                        c.due("choosesLevel of the greatest value, " + text, x.choosesLevel(i, j, a, greatest), 1);
                        c.due("valueThreshold is not NONE, " + text, x.valueThreshold(i, j, a) != NONE, true);
                    }
                }
            }
        }
    }

    private static void fixed() {
        c.promise(24);
        StoppingPlanner x = Checks.planner("n2;");
        c.fraction("fixed(0)", x, x.fixed(0), 20, 1);
        c.fraction("fixed(10)", x, x.fixed(10), 24, 1);
        c.fraction("fixed(11)", x, x.fixed(11), 126, 5);
        c.fraction("fixed(20)", x, x.fixed(20), 126, 5);
        c.fraction("fixed(30)", x, x.fixed(30), 112, 5);
        c.fraction("fixed(41)", x, x.fixed(41), 0, 1);
        c.fraction("fixed(99)", x, x.fixed(99), 0, 1);
        x.setCount(2, 5);
        c.fraction("fixed(99)", x, x.fixed(99), -10, 1);
        c.fraction("fixed(0)", x, x.fixed(0), 15, 1);
        c.fraction("fixed(30)", x, x.fixed(30), 112 - 40, 5);
        x.setCount(1, 3);
        c.fraction("fixed(0)", x, x.fixed(0), 30, 1);
        x.setRecall(1, 10);
        x.setRecall(2, 10);
        c.fraction("fixed(41): nobody recalls", x, x.fixed(41), -10, 1);
        x.setCount(2, 20);
        x.setLevel(4, 99);
        x.setLevel(3, 98);
        c.fraction("fixed(99)", x, x.fixed(99), -2, 5);
        c.due("fixed(-1)", x.fixed(-1), BAD_FRACTION);
        c.due("fixed(100)", x.fixed(100), BAD_FRACTION);
        for (int odd : ODD) {
            c.due("fixed(" + odd + ")", x.fixed(odd), BAD_FRACTION);
        }
        c.due("denominator()", x.denominator(), 5);
    }

    private static void bestFixed() {
        c.promise(25);
        c.due("bestFixed()", Checks.planner("n2;").bestFixed(), 11);
        c.due("bestFixed()", Checks.planner("n1;").bestFixed(), 0);
        c.due("bestFixed()", Checks.planner("n7;").bestFixed(), 21);
        c.due("bestFixed() of equal ones", Checks.planner("n5;v9 9 9 9 9;").bestFixed(), 0);
        c.due("bestFixed() for the greatest value", Checks.planner("n7;v98 98 98 98 99;w1 0 0 0 9;").bestFixed(), 99);
        c.due("bestFixed() at any cost", Checks.planner("n7;v0 0 0 0 1;c20;").bestFixed(), 0);
        StoppingPlanner x = Checks.planner("n4;k2;v60 3 60 17 44;w1 2 3 2 2;c3;");
        int best = 0;
        for (int h = 0; h <= 99; h++) {
            long n = x.fixed(h);
            long d = x.denominator();
            long bestN = x.fixed(best);
            if (n * x.denominator() > bestN * d) {
                best = h;
            }
        }
        x.worth(4, 1);
        long denominator = x.denominator();
        c.due("bestFixed()", x.bestFixed(), best);
        c.due("denominator() after bestFixed()", x.denominator(), denominator);
    }

    private static void recallGain() {
        c.promise(26);
        StoppingPlanner x = Checks.planner("n2;");
        c.fraction("recallGain()", x, x.recallGain(), 0, 1);
        x.setRecall(1, 10);
        c.fraction("recallGain() where age 1 brings nothing", x, x.recallGain(), 0, 1);
        x.setRecall(2, 10);
        c.fraction("recallGain()", x, x.recallGain(), 2, 1);
        x.setRecall(2, 9);
        // 30 then 0 to 10: 27 as a recall is worth more than that; no other first level passes.
        long n = x.situation(1, 1, 5, 5);
        long d = x.denominator();
        c.fraction("recallGain()", x, x.recallGain(), (n - 26 * d) / gcd(n - 26 * d, d), d / gcd(n - 26 * d, d));
        c.due("parameter(20)", x.parameter(20), 10);
        c.due("parameter(21)", x.parameter(21), 9);
        c.due("count(1)", x.count(1), 4);
        c.fraction("situation(1, 1, 5, 5)", x, x.situation(1, 1, 5, 5), n, d);
        x.setRecall(2, 10);
        for (int level = 1; level <= 4; level++) {
            x.setLevel(level, 20 * level);
        }
        c.fraction("recallGain() with twice the values", x, x.recallGain(), 4, 1);
    }

    private static long gcd(long a, long b) {
        return b == 0 ? a : gcd(b, a % b);
    }

    private static void price() {
        c.promise(27);
        StoppingPlanner x = Checks.planner("n2;");
        c.fraction("price(true)", x, x.price(true), 14, 1);
        x = Checks.planner("n3;");
        c.fraction("price(true) of a second choice", x, x.price(true), 20, 1);
        x.setCount(1, 2);
        c.fraction("price(true) of a third choice", x, x.price(true), 52, 5);
        x = Checks.planner("n2;");
        x.setRecall(2, 10);
        c.fraction("price(true)", x, x.price(true), 12, 1);
        x.setCount(0, 3);
        c.fraction("price(false)", x, x.price(false), 33, 1);
        x.setCount(1, 2);
        c.fraction("price(false)", x, x.price(false), 33, 2);
        c.due("parameter(1)", x.parameter(1), 2);
        c.due("count(1)", x.count(1), 4);
        x.setCount(1, 3);
        c.due("price(true)", x.price(true), BAD_FRACTION);
        c.due("price(false)", x.price(false), BAD_FRACTION);
        c.due("denominator()", x.denominator(), 2);
    }

    private static void denominator() {
        c.promise(28);
        StoppingPlanner x = new StoppingPlanner();
        c.due("denominator()", x.denominator(), 1);
        x.fixed(-1);
        c.due("denominator()", x.denominator(), 1);
        x.rankValue(1, 1);
        c.due("denominator()", x.denominator(), 10);
        x.rankValue(9, 1);
        x.worth(0, 0);
        x.skipping(-1);
        x.situation(0, 0, 0, 0);
        x.rankExpectation(9);
        x.bestSkip();
        x.bestFixed();
        x.recalls(1, 1, 5, 5);
        x.simulateValues(1, 1);
        x.setCount(0, 4);
        x.undo();
        c.due("denominator()", x.denominator(), 10);
        x.rankValue(1, 0);
        c.due("denominator() of 0", x.denominator(), 1);
    }

    private static void greatestNumbers() {
        c.promise(19);
        StoppingPlanner x = Checks.planner("n7;k3;v99 99 99 99 99;r10 10;");
        c.fraction("situation(1, 3, 0, 0)", x, x.situation(1, 3, 0, 0), 297, 1);
        c.fraction("situation(8, 3, 0, 0)", x, x.situation(8, 3, 0, 0), 99, 1);
        x.setRecall(1, 9);
        x.setRecall(2, 7);
        c.fraction("situation(1, 3, 0, 0)", x, x.situation(1, 3, 0, 0), 297, 1);
        x = Checks.planner("n7;k3;v91 71 99 80 51;w1 1 1 6 1;r9 9;");
        c.fraction("situation(1, 3, 2, 2)", x, x.situation(1, 3, 2, 2), 286718639272243717L, 1000000000000000L);
    }
}
