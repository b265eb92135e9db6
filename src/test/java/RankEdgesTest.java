/** The boundaries that the document names for the rank problem and its skipping rule: a test for each sentence. */
public final class RankEdgesTest {
    private static final int BAD = StoppingPlanner.BAD;
    private static final long BAD_FRACTION = StoppingPlanner.BAD_FRACTION;
    private static final String V = "The value V(i, j) of the situation before candidate i is observed, with j choices"
        + " left, is 0 if j is 0 or i is n + 1; otherwise it is the greater one of 0 and W - c, where W is the mean,"
        + " over all relative ranks r from 1 to i, of the greater one of V(i + 1, j) and the worth of candidate i with"
        + " the relative rank r plus V(i + 1, j - 1).";
    private static final String SKIPPING = "The skipping rule with s (0 to n): the first s candidates are observed and"
        + " passed; then each candidate whose relative rank is 1 is chosen, until no choice is left or no candidate;"
        + " each observation costs c, and nobody quits as long as a choice is left and a candidate comes.";
    private static final Checks c = new Checks("RankEdgesTest");

    public static void main(String[] args) {
        ranksOfTheCandidates();
        relativeRanks();
        ranksThatCount();
        valueWithoutChoiceOrCandidate();
        valueIsNotNegative();
        meanOverAllRelativeRanks();
        quitsAtZero();
        choosesAtATie();
        skippingNobodyAndEverybody();
        skippingUntilNoChoiceIsLeft();
        skippingNeverQuits();
        worthRanges();
        worthRefuses();
        rankValueRanges();
        rankValueRefuses();
        choosesRankRanges();
        choosesRankRefuses();
        rankThresholdIsTheGreatest();
        rankThresholdRanges();
        rankThresholdAnswers();
        rankExpectationKinds();
        rankExpectationRefuses();
        skippingRange();
        skippingRefuses();
        bestSkipIsTheSmallest();
        c.end();
    }

    private static StoppingPlanner planner(int n, int k) {
        return Checks.planner("n" + n + ";k" + k + ";p90 50 40 20 10 9 3;");
    }

    // ---- the description

    private static void ranksOfTheCandidates() {
        c.sentence(0, "The candidates have the ranks 1 (best) to n, all orders being equally probable.");
        for (int n = 1; n <= 7; n++) {
            StoppingPlanner x = planner(n, 1);
            long sum = 0;
            for (int rank = 1; rank <= n; rank++) {
                sum += x.parameter(2 + rank);
                c.fraction("worth(n, rank): all ranks are known", x, x.worth(n, rank), x.parameter(2 + rank), 1);
            }
            c.due("worth(1, 1) is the mean of all ranks", x.worth(1, 1) * n, sum * x.denominator());
            // Payoffs of ranks that nobody has count for nothing.
            long value = x.rankValue(1, 1);
            long observations = x.rankExpectation(0);
            long skipped = x.skipping(n / 2);
            for (int rank = n + 1; rank <= 7; rank++) {
                x.setPayoff(rank, 99);
            }
            c.due("rankValue(1, 1)", x.rankValue(1, 1), value);
            c.due("rankExpectation(0)", x.rankExpectation(0), observations);
            c.due("skipping(n / 2)", x.skipping(n / 2), skipped);
            x.setPayoff(n, 99);
            c.due("worth(n, n)", x.worth(n, n), 99);
        }
    }

    private static void relativeRanks() {
        c.sentence(0, "When candidate i (1 to n) is observed, its relative rank r is known, 1 to i, which is its rank"
            + " among the first i candidates.");
        for (int n = 1; n <= 7; n++) {
            StoppingPlanner x = planner(n, 1);
            c.range("worth(i, 1)", 1, n, BAD_FRACTION, i -> x.worth(i, 1));
            c.range("choosesRank(i, 1, 1)", 1, n, BAD, i -> x.choosesRank(i, 1, 1));
            for (int i = 1; i <= n; i++) {
                int candidate = i;
                c.range("worth(" + i + ", r)", 1, i, BAD_FRACTION, r -> x.worth(candidate, r));
                c.range("choosesRank(" + i + ", 1, r)", 1, i, BAD, r -> x.choosesRank(candidate, 1, r));
            }
        }
    }

    private static void ranksThatCount() {
        c.sentence(0, "the sum, over all ranks R from r to n - i + r, of the payoff of R times C(R - 1, r - 1) * C(n -"
            + " R, i - r) / C(n, i), where C are binomial coefficients.");
        for (int n = 1; n <= 7; n++) {
            for (int rank = 1; rank <= n; rank++) {
                StoppingPlanner x = Checks.planner("n" + n + ";p0;");
                x.setPayoff(rank, 1);
                for (int i = 1; i <= n; i++) {
                    for (int r = 1; r <= i; r++) {
                        boolean counts = rank >= r && rank <= n - i + r;
                        String call = "worth(" + i + ", " + r + ") of n = " + n + " with a payoff for " + rank;
                        c.due(call + " is more than 0", x.worth(i, r) > 0, counts);
                        long ways = counts ? binomial(rank - 1, r - 1) * binomial(n - rank, i - r) : 0;
                        c.due(call, x.worth(i, r) * binomial(n, i), ways * x.denominator());
                    }
                }
            }
        }
    }

    private static long binomial(int above, int below) {
        return below == 0 || below == above ? 1 : binomial(above - 1, below - 1) + binomial(above - 1, below);
    }

    private static void valueWithoutChoiceOrCandidate() {
        c.sentence(0, V);
        for (int n = 1; n <= 7; n++) {
            for (int k = 1; k <= 3; k++) {
                StoppingPlanner x = planner(n, k);
                noValueAtTheEnds(x, n, k);
                // Another n and k must not leave values behind where there is no candidate or choice now.
                x.setCount(0, 7);
                x.setCount(1, 3);
                x.rankValue(1, 3);
                x.rankExpectation(2);
                x.skipping(0);
                x.setCount(0, n);
                x.setCount(1, k);
                noValueAtTheEnds(x, n, k);
            }
        }
    }

    private static void noValueAtTheEnds(StoppingPlanner x, int n, int k) {
        for (int i = 1; i <= n + 1; i++) {
            c.fraction("rankValue(" + i + ", 0)", x, x.rankValue(i, 0), 0, 1);
        }
        for (int j = 0; j <= k; j++) {
            c.fraction("rankValue(n + 1, " + j + ")", x, x.rankValue(n + 1, j), 0, 1);
        }
        for (int j = 1; j <= k; j++) {
            c.due("rankValue(n, " + j + ") is the mean payoff", x.rankValue(n, j) * n,
                sumOfPayoffs(x) * x.denominator());
        }
    }

    private static long sumOfPayoffs(StoppingPlanner x) {
        long sum = 0;
        for (int rank = 1; rank <= x.parameter(0); rank++) {
            sum += x.parameter(2 + rank);
        }
        return sum;
    }

    private static void valueIsNotNegative() {
        c.sentence(0, "otherwise it is the greater one of 0 and W - c,");
        for (int n = 1; n <= 7; n++) {
            StoppingPlanner x = Checks.planner("n" + n + ";p12 12 12 12 12 12 12;");
            for (int cost = 10; cost <= 14; cost++) {
                x.setCount(2, cost);
                c.fraction("rankValue(n, 1) with cost " + cost, x, x.rankValue(n, 1), Math.max(0, 12 - cost), 1);
                c.fraction("rankValue(1, 1) with cost " + cost, x, x.rankValue(1, 1), Math.max(0, 12 - cost), 1);
            }
        }
        // the least that W can be above c, and below it
        StoppingPlanner x = Checks.planner("n7;p99 42;c20;");
        c.fraction("rankValue(7, 1): W is 141 / 7", x, x.rankValue(7, 1), 1, 7);
        x.setPayoff(2, 41);
        c.fraction("rankValue(7, 1): W is 140 / 7", x, x.rankValue(7, 1), 0, 1);
        x.setPayoff(2, 40);
        c.fraction("rankValue(7, 1): W is 139 / 7", x, x.rankValue(7, 1), 0, 1);
    }

    private static void meanOverAllRelativeRanks() {
        c.sentence(0, "where W is the mean, over all relative ranks r from 1 to i, of the greater one of V(i + 1, j)"
            + " and the worth of candidate i with the relative rank r plus V(i + 1, j - 1).");
        for (int n = 1; n <= 7; n++) {
            for (int rank = 1; rank <= n; rank++) {
                StoppingPlanner x = Checks.planner("n" + n + ";k3;p0;");
                x.setPayoff(rank, n);
                // Each rank comes last with the same chance, the first one and the last one, too.
                c.fraction("rankValue(n, 1) with a payoff for " + rank, x, x.rankValue(n, 1), 1, 1);
                c.fraction("rankValue(n, 3) with a payoff for " + rank, x, x.rankValue(n, 3), 1, 1);
            }
        }
        StoppingPlanner x = Checks.planner("n2;k2;p10 4;");
        // With one choice, both are worth 7 on the average, known or not; with two, both are chosen.
        c.fraction("rankValue(1, 1)", x, x.rankValue(1, 1), 7, 1);
        c.fraction("rankValue(1, 2)", x, x.rankValue(1, 2), 14, 1);
    }

    private static void quitsAtZero() {
        c.sentence(0, "The best policy: quit if the value is 0 (also if j is 0 or i is n + 1).");
        for (int n = 1; n <= 7; n++) {
            StoppingPlanner x = Checks.planner("n" + n + ";k1;c9;p9 9 9 9 9 9 9;");
            c.due("count(3) where an observation is worth what it costs", x.count(3), n);
            c.fraction("rankExpectation(0)", x, x.rankExpectation(0), 0, 1);
            c.fraction("rankExpectation(1)", x, x.rankExpectation(1), 0, 1);
            c.fraction("rankExpectation(2)", x, x.rankExpectation(2), 0, 1);
            c.due("simulateRanks(1, 1)", x.simulateRanks(1, 1), 0);
            x.setCount(2, 8);
            // The first one is chosen; then no choice is left, and one quits.
            c.due("count(3) where it is worth more", x.count(3), 0);
            c.fraction("rankExpectation(0)", x, x.rankExpectation(0), 1, 1);
            c.due("simulateRanks(1, 1)", x.simulateRanks(1, 1), 1);
            x.setCount(1, 3);
            // If there are not enough candidates, one quits behind the last one.
            c.fraction("rankExpectation(0)", x, x.rankExpectation(0), Math.min(n, 3), 1);
            c.due("simulateRanks(1, 1)", x.simulateRanks(1, 1), Math.min(n, 3));
        }
    }

    private static void choosesAtATie() {
        c.sentence(0, "Otherwise observe; choose, if the worth plus V(i + 1, j - 1) is at least V(i + 1, j).");
        StoppingPlanner x = Checks.planner("n2;p99 0;");
        // Both are worth 99 / 2.
        c.due("choosesRank(1, 1, 1)", x.choosesRank(1, 1, 1), 1);
        c.due("rankThreshold(1, 1)", x.rankThreshold(1, 1), 1);
        c.fraction("rankExpectation(0)", x, x.rankExpectation(0), 1, 1);
        c.due("simulateRanks(1, 2)", x.simulateRanks(1, 2), 1);
        // 100 / 3 at once, or 67 / 2 if one waits for a second candidate that is better, or for the third one.
        x = Checks.planner("n3;p34 33 33;");
        c.due("choosesRank(1, 1, 1)", x.choosesRank(1, 1, 1), 0);
        c.fraction("rankValue(2, 1)", x, x.rankValue(2, 1), 67, 2);
        c.due("choosesRank(2, 1, 1)", x.choosesRank(2, 1, 1), 1);
        c.due("choosesRank(2, 1, 2)", x.choosesRank(2, 1, 2), 0);
        x.setPayoff(1, 33);
        c.due("choosesRank(1, 1, 1) of equal ones", x.choosesRank(1, 1, 1), 1);
        c.due("choosesRank(2, 1, 2) of equal ones", x.choosesRank(2, 1, 2), 1);
        // With two choices left and two to come: nothing and one choice for 21, or two choices for 24.
        x = Checks.planner("n5;k2;p60;");
        c.fraction("rankValue(4, 1)", x, x.rankValue(4, 1), 21, 1);
        c.fraction("rankValue(4, 2)", x, x.rankValue(4, 2), 24, 1);
        c.due("choosesRank(3, 2, 2)", x.choosesRank(3, 2, 2), 0);
        c.due("choosesRank(3, 2, 1)", x.choosesRank(3, 2, 1), 1);
        // Behind the last candidate, everything is worth 0, and so is a candidate without a payoff.
        x = Checks.planner("n7;k3;p0;");
        for (int r = 1; r <= 7; r++) {
            c.due("choosesRank(7, 3, " + r + ") without payoffs", x.choosesRank(7, 3, r), 1);
        }
    }

    // ---- simple rules: skipping

    private static void skippingNobodyAndEverybody() {
        c.sentence(0, SKIPPING);
        for (int n = 1; n <= 7; n++) {
            for (int k = 1; k <= 3; k++) {
                StoppingPlanner x = planner(n, k);
                x.setCount(2, 3);
                c.fraction("skipping(n): nobody is chosen", x, x.skipping(n), -3 * n, 1);
                long chosen = x.worth(n, 1);
                // n - 1 are passed, and the last one is chosen if it is the best one.
                long value = x.skipping(n - 1);
                c.due("skipping(n - 1)", value * n, (chosen - 3L * n * n) * x.denominator());
                x.setCount(1, 1);
                long sum = sumOfPayoffs(x);
                value = x.skipping(0);
                c.due("skipping(0) with one choice: the first one", value * n, (sum - 3L * n) * x.denominator());
            }
        }
        StoppingPlanner x = Checks.planner("n3;p90 30 6;k3;");
        // The first one is chosen always, the second one with 1 / 2, worth 70 then, the third one with 1 / 3, worth 90.
        c.fraction("skipping(0)", x, x.skipping(0), 42 + 35 + 30, 1);
        c.fraction("skipping(1)", x, x.skipping(1), 35 + 30, 1);
        c.fraction("skipping(2)", x, x.skipping(2), 30, 1);
        c.fraction("skipping(3)", x, x.skipping(3), 0, 1);
    }

    private static void skippingUntilNoChoiceIsLeft() {
        c.sentence(0, "until no choice is left or no candidate; each observation costs c,");
        StoppingPlanner x = Checks.planner("n7;k1;c20;p50 50 50 50 50 50 50;");
        c.fraction("skipping(0): one observation", x, x.skipping(0), 30, 1);
        x.setCount(0, 1);
        x.setCount(1, 3);
        c.fraction("skipping(0): one candidate", x, x.skipping(0), 30, 1);
        c.fraction("skipping(1): one candidate, passed", x, x.skipping(1), -20, 1);
        x.setCount(0, 2);
        x.setCount(1, 2);
        // The second one is observed in any case, and chosen with the chance 1 / 2.
        c.fraction("skipping(0): two candidates", x, x.skipping(0), 35, 1);
        c.fraction("skipping(1): two candidates", x, x.skipping(1), -15, 1);
        x.setCount(0, 3);
        // Two choices are used up before the third one with the chance 1 / 2; it is chosen with 1 / 2 * 1 / 3.
        c.fraction("skipping(0): three candidates", x, x.skipping(0), 3 * (50 - 20 + 25 - 20 - 10) + 25, 3);
    }

    private static void skippingNeverQuits() {
        c.sentence(0, "and nobody quits as long as a choice is left and a candidate comes.");
        for (int n = 1; n <= 7; n++) {
            StoppingPlanner x = Checks.planner("n" + n + ";k1;c20;p0;");
            c.fraction("rankValue(1, 1): the best policy quits", x, x.rankValue(1, 1), 0, 1);
            c.fraction("skipping(0)", x, x.skipping(0), -20, 1);
            c.fraction("skipping(n)", x, x.skipping(n), -20 * n, 1);
            x.setCount(1, 3);
            c.fraction("skipping(n) with three choices", x, x.skipping(n), -20 * n, 1);
            if (n <= 3) {
                c.fraction("skipping(0) with three choices", x, x.skipping(0), -20 * n, 1);
            }
        }
    }

    // ---- promises 12 to 15

    private static void worthRanges() {
        c.sentence(12, "- `i`: the candidate, 1 to n - `r`: its relative rank, 1 to i");
        StoppingPlanner x = new StoppingPlanner();
        for (int n : new int[] {5, 7, 1, 6, 2, 3, 4}) {
            x.setCount(0, n);
            c.range("worth(i, 1), n = " + n, 1, n, BAD_FRACTION, i -> x.worth(i, 1));
            for (int i = 1; i <= n; i++) {
                int candidate = i;
                c.range("worth(" + i + ", r), n = " + n, 1, i, BAD_FRACTION, r -> x.worth(candidate, r));
            }
        }
    }

    private static void worthRefuses() {
        c.sentence(12, "Returns the numerator; BAD_FRACTION if an argument is out of range.");
        for (int n = 1; n <= 7; n++) {
            StoppingPlanner x = planner(n, 1);
            int[][] refused = {
                {0, 0}, {0, 1}, {1, 0}, {1, 2}, {n, n + 1}, {n + 1, 1}, {n + 1, n}, {n + 1, n + 1}, {-1, -1}, {8, 8},
                {1, -1}};
            for (int[] r : refused) {
                c.due("worth(" + r[0] + ", " + r[1] + "), n = " + n, x.worth(r[0], r[1]), BAD_FRACTION);
            }
            for (int i = 1; i < n; i++) {
                c.due("worth(i, i + 1): a relative rank that comes later", x.worth(i, i + 1), BAD_FRACTION);
            }
            c.due("denominator() where no fraction was returned", x.denominator(), 1);
            c.due("worth(n, n)", x.worth(n, n), x.parameter(2 + n));
        }
    }

    private static void rankValueRanges() {
        c.sentence(13, "- `i`: 1 to n + 1 - `j`: 0 to k");
        StoppingPlanner x = new StoppingPlanner();
        for (int n : new int[] {5, 7, 1, 6, 2, 3, 4}) {
            for (int k : new int[] {1, 3, 2}) {
                x.setCount(0, n);
                x.setCount(1, k);
                for (int j = 0; j <= k; j++) {
                    int left = j;
                    c.range("rankValue(i, " + j + "), n = " + n, 1, n + 1, BAD_FRACTION, i -> x.rankValue(i, left));
                }
                for (int i = 1; i <= n + 1; i++) {
                    int candidate = i;
                    c.range("rankValue(" + i + ", j), k = " + k, 0, k, BAD_FRACTION, j -> x.rankValue(candidate, j));
                }
            }
        }
    }

    private static void rankValueRefuses() {
        c.sentence(13, "Returns the numerator; BAD_FRACTION if an argument is out of range.");
        for (int n = 1; n <= 7; n++) {
            for (int k = 1; k <= 3; k++) {
                StoppingPlanner x = planner(n, k);
                int[][] refused = {
                    {0, 0}, {0, k}, {n + 2, 0}, {n + 2, k}, {1, -1}, {1, k + 1}, {n + 1, -1}, {n + 1, k + 1}, {0, -1},
                    {n + 2, k + 1}};
                for (int[] r : refused) {
                    String call = "rankValue(" + r[0] + ", " + r[1] + "), n = " + n + ", k = " + k;
                    c.due(call, x.rankValue(r[0], r[1]), BAD_FRACTION);
                }
                c.due("denominator() where no fraction was returned", x.denominator(), 1);
                c.due("rankValue(1, k) is answered", x.rankValue(1, k) > 0, true);
            }
        }
    }

    private static void choosesRankRanges() {
        c.sentence(14, "- `i`: the candidate, 1 to n - `j`: the choices that are left, 1 to k - `r`: its relative"
            + " rank, 1 to i");
        StoppingPlanner x = new StoppingPlanner();
        for (int n : new int[] {5, 7, 1, 6, 2, 3, 4}) {
            for (int k : new int[] {1, 3, 2}) {
                x.setCount(0, n);
                x.setCount(1, k);
                c.range("choosesRank(i, k, 1), n = " + n, 1, n, BAD, i -> x.choosesRank(i, k, 1));
                for (int i = 1; i <= n; i++) {
                    int candidate = i;
                    c.range("choosesRank(" + i + ", j, 1), k = " + k, 1, k, BAD, j -> x.choosesRank(candidate, j, 1));
                    c.range("choosesRank(" + i + ", j, i), k = " + k, 1, k, BAD,
                        j -> x.choosesRank(candidate, j, candidate));
                    c.range("choosesRank(" + i + ", k, r)", 1, i, BAD, r -> x.choosesRank(candidate, k, r));
                }
            }
        }
    }

    private static void choosesRankRefuses() {
        c.sentence(14, "Returns 1 if it chooses the candidate, else 0; BAD if an argument is out of range.");
        for (int n = 1; n <= 7; n++) {
            for (int k = 1; k <= 3; k++) {
                StoppingPlanner x = planner(n, k);
                int[][] refused = {
                    {0, 1, 1}, {0, 1, 0}, {n + 1, 1, 1}, {n + 1, 1, n + 1}, {1, 0, 1}, {1, k + 1, 1}, {1, -1, 1},
                    {1, 1, 0}, {1, 1, 2}, {n, k, n + 1}, {n, k, 0}, {n, 0, n}, {n, k + 1, n}, {0, 0, 0},
                    {n + 1, k + 1, n + 2}};
                for (int[] r : refused) {
                    String call = "choosesRank(" + r[0] + ", " + r[1] + ", " + r[2] + "), n = " + n + ", k = " + k;
                    c.due(call, x.choosesRank(r[0], r[1], r[2]), BAD);
                }
                c.due("choosesRank(n, k, n): nobody comes any more", x.choosesRank(n, k, n), 1);
                c.due("choosesRank(n, 1, 1): nobody comes any more", x.choosesRank(n, 1, 1), 1);
            }
        }
        c.due("choosesRank(1, 1, 1): better ones come", planner(5, 1).choosesRank(1, 1, 1), 0);
    }

    private static void rankThresholdIsTheGreatest() {
        c.sentence(15, "Returns the rank threshold: the greatest r such that all relative ranks from 1 to r are"
            + " chosen.");
        StoppingPlanner x = Checks.planner("n4;p99 0 0 99;");
        // The relative rank 3 of 3 is chosen, too, but 2 isn't.
        c.due("choosesRank(3, 1, 1)", x.choosesRank(3, 1, 1), 1);
        c.due("choosesRank(3, 1, 2)", x.choosesRank(3, 1, 2), 0);
        c.due("choosesRank(3, 1, 3)", x.choosesRank(3, 1, 3), 1);
        c.due("rankThreshold(3, 1)", x.rankThreshold(3, 1), 1);
        x = Checks.planner("n4;p0 0 0 99;");
        c.due("choosesRank(3, 1, 3)", x.choosesRank(3, 1, 3), 1);
        c.due("rankThreshold(3, 1)", x.rankThreshold(3, 1), 0);
        for (int n = 1; n <= 7; n++) {
            x = planner(n, 3);
            for (int j = 1; j <= 3; j++) {
                // With the last candidate, everybody is chosen.
                c.due("rankThreshold(n, " + j + "), n = " + n, x.rankThreshold(n, j), n);
                // So it is where there are choices for all who come.
                int i = Math.max(1, n - j + 1);
                c.due("rankThreshold(" + i + ", 3), n = " + n, x.rankThreshold(i, 3), i);
            }
        }
    }

    private static void rankThresholdRanges() {
        c.sentence(15, "- `i`: the candidate, 1 to n - `j`: the choices that are left, 1 to k");
        StoppingPlanner x = new StoppingPlanner();
        for (int n : new int[] {5, 7, 1, 6, 2, 3, 4}) {
            for (int k : new int[] {1, 3, 2}) {
                x.setCount(0, n);
                x.setCount(1, k);
                for (int j = 1; j <= k; j++) {
                    int left = j;
                    c.range("rankThreshold(i, " + j + "), n = " + n, 1, n, BAD, i -> x.rankThreshold(i, left));
                }
                for (int i = 1; i <= n; i++) {
                    int candidate = i;
                    c.range("rankThreshold(" + i + ", j), k = " + k, 1, k, BAD, j -> x.rankThreshold(candidate, j));
                }
            }
        }
    }

    private static void rankThresholdAnswers() {
        c.sentence(15, "Returns r, 0 if the relative rank 1 is not chosen; BAD if an argument is out of range.");
        StoppingPlanner secretary = Checks.planner("n7;p99;");
        int[] want = {0, 0, 1, 1, 1, 1, 7};
        for (int i = 1; i <= 7; i++) {
            c.due("rankThreshold(" + i + ", 1)", secretary.rankThreshold(i, 1), want[i - 1]);
        }
        for (int n = 1; n <= 7; n++) {
            for (int k = 1; k <= 3; k++) {
                StoppingPlanner x = planner(n, k);
                int[][] refused = {
                    {0, 1}, {n + 1, 1}, {1, 0}, {1, k + 1}, {n, 0}, {n, k + 1}, {1, -1}, {-1, 1}, {0, 0},
                    {n + 1, k + 1}};
                for (int[] r : refused) {
                    String call = "rankThreshold(" + r[0] + ", " + r[1] + "), n = " + n + ", k = " + k;
                    c.due(call, x.rankThreshold(r[0], r[1]), BAD);
                }
            }
        }
    }

    // ---- promises 16 to 18

    private static void rankExpectationKinds() {
        c.sentence(16, "- `what`: 0 for the number of observations, 1 for the number of choices, 2 for the probability"
            + " that all k choices are used");
        for (int n = 1; n <= 7; n++) {
            for (int k = 1; k <= 3; k++) {
                // Everybody who comes is chosen.
                StoppingPlanner x = Checks.planner("n" + n + ";k" + k + ";c1;p9 9 9 9 9 9 9;");
                c.fraction("observations", x, x.rankExpectation(0), Math.min(n, k), 1);
                c.fraction("choices", x, x.rankExpectation(1), Math.min(n, k), 1);
                c.fraction("all choices", x, x.rankExpectation(2), n >= k ? 1 : 0, 1);
                x.setCount(2, 9);
                for (int what = 0; what <= 2; what++) {
                    c.fraction("rankExpectation(" + what + ") of who quits at once", x, x.rankExpectation(what), 0, 1);
                }
            }
        }
        StoppingPlanner x = Checks.planner("n3;p99;");
        // The second one is better than the first one with the chance 1 / 2; else the third one is observed, too.
        c.fraction("observations", x, x.rankExpectation(0), 5, 2);
        c.fraction("choices", x, x.rankExpectation(1), 1, 1);
        c.fraction("all choices", x, x.rankExpectation(2), 1, 1);
    }

    private static void rankExpectationRefuses() {
        c.sentence(16, "Returns the numerator; BAD_FRACTION if what is out of range.");
        StoppingPlanner x = new StoppingPlanner();
        c.range("rankExpectation(what)", 0, 2, BAD_FRACTION, x::rankExpectation);
    }

    private static void skippingRange() {
        c.sentence(17, "- `s`: 0 to n");
        StoppingPlanner x = new StoppingPlanner();
        for (int n : new int[] {5, 7, 1, 6, 2, 3, 4}) {
            x.setCount(0, n);
            c.range("skipping(s), n = " + n, 0, n, BAD_FRACTION, x::skipping);
        }
    }

    private static void skippingRefuses() {
        c.sentence(17, "Returns the numerator; BAD_FRACTION if s is out of range.");
        for (int n = 1; n <= 7; n++) {
            StoppingPlanner x = planner(n, 2);
            c.due("skipping(-1)", x.skipping(-1), BAD_FRACTION);
            c.due("skipping(n + 1)", x.skipping(n + 1), BAD_FRACTION);
            c.due("skipping(8)", x.skipping(8), BAD_FRACTION);
            c.due("denominator() where no fraction was returned", x.denominator(), 1);
            c.due("skipping(n)", x.skipping(n), 0);
        }
    }

    private static void bestSkipIsTheSmallest() {
        c.sentence(18, "Returns the s for which skipping() is greatest, the smallest one of several.");
        for (int n = 1; n <= 7; n++) {
            // All rules are worth 0.
            c.due("bestSkip() without payoffs", Checks.planner("n" + n + ";k2;p0;").bestSkip(), 0);
            c.due("bestSkip() with costs", Checks.planner("n" + n + ";k2;p0;c3;").bestSkip(), 0);
        }
        StoppingPlanner x = Checks.planner("n2;p99 0;");
        c.fraction("skipping(0)", x, x.skipping(0), 99, 2);
        c.fraction("skipping(1)", x, x.skipping(1), 99, 2);
        c.due("bestSkip() of two that are equal", x.bestSkip(), 0);
        c.due("bestSkip()", Checks.planner("n7;p99;").bestSkip(), 2);
        String[] texts = {
            "n4;p1;", "n4;p99 97 95;", "n7;k2;p99;", "n7;k3;p99 50;c2;", "n7;k3;p99;c1;", "n6;p0 9;",
            "n6;p9 0 0 0 0 9;"};
        for (String text : texts) {
            isTheSmallestBest(text, Checks.planner(text));
        }
    }

    private static void isTheSmallestBest(String text, StoppingPlanner x) {
        int best = x.bestSkip();
        long most = x.skipping(best);
        long below = x.denominator();
        for (int s = 0; s <= x.parameter(0); s++) {
            long value = x.skipping(s);
            long difference = most * x.denominator() - value * below;
            c.due("skipping(" + best + ") is better than skipping(" + s + ") of " + text,
                s < best ? difference > 0 : difference >= 0, true);
        }
    }
}
