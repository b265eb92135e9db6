/** The boundaries that the document names for the value problem and its best policy: a test for each sentence. */
public final class ValueEdgesTest {
    private static final int BAD = StoppingPlanner.BAD;
    private static final int NONE = StoppingPlanner.NONE;
    private static final long BAD_FRACTION = StoppingPlanner.BAD_FRACTION;
    /** One candidate comes, who is worth 0 or 99; level 3 is worth 40. Age 2 is recalled for sure, age 1 is not. */
    private static final String ZERO_OR_99 = "n1;v0 10 20 40 99;w5 0 0 0 5;r0 10;";
    /** Numbers of candidates, one after the other with the same planner. */
    private static final int[] SIZES = {5, 7, 1, 6, 2, 3, 4};
    private static final Checks c = new Checks("ValueEdgesTest");

    public static void main(String[] args) {
        weightsAreProbabilities();
        agesOfTheRemembered();
        recallAfterTheLastObservation();
        recallNeedsAChoice();
        recalledIsForgotten();
        oneRecallBetweenObservations();
        fiveStandsForNone();
        situationWithoutAChoice();
        onlyRememberedOnesAreRecalled();
        goingOnIsNotNegative();
        noRecallAtATie();
        ageOneAtATie();
        quitsAtZero();
        choosesAtATie();
        situationRanges();
        situationRefuses();
        recallsRanges();
        recallsAnswers();
        observesRanges();
        observesAnswers();
        choosesLevelRanges();
        choosesLevelAnswers();
        valueThresholdIsTheSmallest();
        valueThresholdRanges();
        valueThresholdAnswers();
        c.end();
    }

    /** A method that is asked about a situation. */
    private interface Question {
        long ask(StoppingPlanner x, int i, int j, int a, int b);
    }

    // ---- the description

    private static void weightsAreProbabilities() {
        c.sentence(0, "The values of the candidates are drawn independently; a candidate has the level l with the"
            + " probability weight of l / 10.");
        for (int level = 0; level <= 4; level++) {
            for (int weight = 0; weight <= 10; weight++) {
                StoppingPlanner x = Checks.planner("n1;v0 0 0 0 0;");
                x.setLevel(level, 50);
                for (int from = 0; from <= 4; from++) {
                    x.shiftWeight(from, (level + 1) % 5, x.parameter(15 + from));
                }
                x.shiftWeight((level + 1) % 5, level, weight);
                c.fraction("S(1, 1, 5, 5) with weight " + weight, x, x.situation(1, 1, 5, 5), 5 * weight, 1);
                c.fraction("fixed(50) with weight " + weight, x, x.fixed(50), 5 * weight, 1);
                x.setCount(0, 2);
                // Two of them: at least one is worth 50.
                long value = x.situation(1, 1, 5, 5);
                c.due("S(1, 1, 5, 5) of two with weight " + weight, value * 2,
                    (100 - (10 - weight) * (10 - weight)) * x.denominator());
            }
        }
    }

    private static void agesOfTheRemembered() {
        c.sentence(0, "A candidate that is passed is remembered with the age 1; when the next candidate has been"
            + " observed (and chosen or passed), its age is 2, and when the one after that has been observed, it is"
            + " forgotten.");
        StoppingPlanner x = Checks.planner(ZERO_OR_99);
        c.fraction("40 has age 1, and cannot be recalled after the last one", x, x.situation(2, 1, 3, 5), 0, 1);
        c.fraction("40 has age 2 after the last one", x, x.situation(2, 1, 5, 3), 40, 1);
        // 99, or 40, which has age 2 then
        c.fraction("40 has age 1 before the last one", x, x.situation(1, 1, 3, 5), 139, 2);
        // 40 at once, or 99 or 0, as 40 is forgotten then
        c.fraction("40 has age 2 before the last one", x, x.situation(1, 1, 5, 3), 99, 2);
        x.setCount(1, 2);
        // 99 is chosen, or 0; 40 has age 2 then in any case.
        c.fraction("40 has age 1 before the last one, two choices", x, x.situation(1, 2, 3, 5), 139 + 40, 2);
        x.setCount(0, 2);
        // After a 0, 40 has age 2, and is forgotten if one goes on for 99 or 0.
        c.fraction("40 has age 1 before the last but one", x, x.situation(1, 1, 3, 5), 2 * 99 + 99, 4);
        x.setRecall(1, 10);
        x.setRecall(2, 0);
        c.fraction("who is passed has age 1", x, x.situation(3, 1, 3, 5), 40, 1);
        c.fraction("who has age 2 has no chance", x, x.situation(3, 1, 5, 3), 0, 1);
    }

    private static void recallAfterTheLastObservation() {
        c.sentence(0, "Before each observation, and after the last one, one remembered candidate can be recalled, if a"
            + " choice is left;");
        for (int n = 1; n <= 7; n++) {
            // Who comes is worth 0.
            StoppingPlanner x = Checks.planner("n" + n + ";k3;w10 0 0 0 0;r10 10;");
            for (int i = 1; i <= n + 1; i++) {
                for (int j = 1; j <= 3; j++) {
                    c.fraction("S(" + i + ", " + j + ", 4, 5)", x, x.situation(i, j, 4, 5), 40, 1);
                    c.fraction("S(" + i + ", " + j + ", 5, 4)", x, x.situation(i, j, 5, 4), 40, 1);
                    c.due("recalls(" + i + ", " + j + ", 5, 4)", x.recalls(i, j, 5, 4), 2);
                }
            }
            c.due("recalls(n + 1, 1, 4, 5)", x.recalls(n + 1, 1, 4, 5), 1);
        }
    }

    private static void recallNeedsAChoice() {
        c.sentence(0, "one remembered candidate can be recalled, if a choice is left;");
        StoppingPlanner x = Checks.planner("n2;k3;r10 10;");
        for (int i = 1; i <= 3; i++) {
            for (int a = 0; a <= 5; a++) {
                for (int b = 0; b <= 5; b++) {
                    c.fraction("S(" + i + ", 0, " + a + ", " + b + ")", x, x.situation(i, 0, a, b), 0, 1);
                    c.due("recalls(" + i + ", 0, " + a + ", " + b + ")", x.recalls(i, 0, a, b), 0);
                }
            }
        }
        c.due("recalls(3, 1, 4, 3)", x.recalls(3, 1, 4, 3), 1);
    }

    private static void recalledIsForgotten() {
        c.sentence(0, "then it is chosen with the recall chance of its age, and its value is the payoff; in any case"
            + " it is not remembered any more.");
        StoppingPlanner x = Checks.planner("n1;k2;w10 0 0 0 0;r5 9;");
        // Now 40 with 5 tenths and then nothing, or, after the observation, with 9 tenths.
        c.fraction("S(1, 1, 4, 5)", x, x.situation(1, 1, 4, 5), 36, 1);
        c.fraction("S(2, 1, 4, 5)", x, x.situation(2, 1, 4, 5), 20, 1);
        c.fraction("S(2, 2, 5, 4)", x, x.situation(2, 2, 5, 4), 36, 1);
        x.setRecall(2, 4);
        // Now it is 5 tenths first; who failed then is not recalled with 4 tenths.
        c.fraction("S(1, 1, 4, 5)", x, x.situation(1, 1, 4, 5), 20, 1);
        x.setRecall(1, 10);
        x.setRecall(2, 10);
        c.fraction("S(1, 2, 4, 5): chosen once", x, x.situation(1, 2, 4, 5), 40, 1);
        c.fraction("S(1, 2, 5, 4): chosen once", x, x.situation(1, 2, 5, 4), 40, 1);
    }

    private static void oneRecallBetweenObservations() {
        c.sentence(0, "At most one recall is tried between two observations.");
        StoppingPlanner x = Checks.planner("n2;k3;w10 0 0 0 0;r10 10;");
        c.fraction("S(3, 2, 4, 3): one of both", x, x.situation(3, 2, 4, 3), 40, 1);
        c.fraction("S(3, 3, 2, 2): one of both", x, x.situation(3, 3, 2, 2), 20, 1);
        // First age 2, then, after an observation, the other one, who has age 2 now.
        c.fraction("S(2, 2, 4, 3): both", x, x.situation(2, 2, 4, 3), 70, 1);
        c.due("recalls(2, 2, 4, 3)", x.recalls(2, 2, 4, 3), 2);
        c.fraction("S(2, 1, 4, 3): only one choice", x, x.situation(2, 1, 4, 3), 40, 1);
        // A recall that fails is a recall, too.
        x = Checks.planner("n2;k3;w10 0 0 0 0;r5 5;");
        c.fraction("S(3, 2, 4, 3)", x, x.situation(3, 2, 4, 3), 20, 1);
        c.fraction("S(3, 2, 3, 4)", x, x.situation(3, 2, 3, 4), 20, 1);
    }

    private static void fiveStandsForNone() {
        c.sentence(0, "A situation (i, j, a, b) is that before candidate i (1 to n + 1), with j choices left (0 to k),"
            + " and the levels a and b of the remembered candidates of age 1 and 2; 5 stands for none.");
        StoppingPlanner x = Checks.planner("n1;k2;r10 10;v7 10 20 30 40;");
        for (int a = 0; a <= 5; a++) {
            for (int b = 0; b <= 5; b++) {
                int best = Math.max(a == 5 ? 0 : x.parameter(10 + a), b == 5 ? 0 : x.parameter(10 + b));
                c.fraction("S(2, 1, " + a + ", " + b + ")", x, x.situation(2, 1, a, b), best, 1);
            }
        }
        c.due("recalls(2, 2, 5, 5)", x.recalls(2, 2, 5, 5), 0);
        c.due("recalls(2, 2, 0, 5)", x.recalls(2, 2, 0, 5), 1);
        c.due("recalls(2, 2, 5, 0)", x.recalls(2, 2, 5, 0), 2);
    }

    private static void situationWithoutAChoice() {
        c.sentence(0, "Its value S(i, j, a, b) is 0 if j is 0;");
        for (int n = 1; n <= 7; n++) {
            for (int k = 1; k <= 3; k++) {
                StoppingPlanner x = Checks.planner("n" + n + ";k" + k + ";r10 9;");
                for (int i = 1; i <= n + 1; i++) {
                    c.fraction("S(" + i + ", 0, 4, 3)", x, x.situation(i, 0, 4, 3), 0, 1);
                    c.fraction("S(" + i + ", 0, 5, 5)", x, x.situation(i, 0, 5, 5), 0, 1);
                    c.due("observes(" + i + ", 0, 4, 3)", x.observes(i, 0, 4, 3), 0);
                    c.due("S(" + i + ", 1, 4, 3) is not 0", x.situation(i, 1, 4, 3) > 0, true);
                }
            }
        }
    }

    private static void onlyRememberedOnesAreRecalled() {
        c.sentence(0, "for a other than 5, p * (value of a + Q(i, j - 1, 5, b)) + (1 - p) * Q(i, j, 5, b), where p is"
            + " the recall chance of age 1; and for b other than 5, q * (value of b + Q(i, j - 1, a, 5)) + (1 - q) *"
            + " Q(i, j, a, 5), where q is the recall chance of age 2.");
        StoppingPlanner x = Checks.planner("n1;k2;r3 7;");
        // Without a recall, the one who comes is worth 20.
        c.fraction("S(1, 1, 5, 5)", x, x.situation(1, 1, 5, 5), 20, 1);
        c.fraction("S(1, 1, 4, 5): 40 with 3 tenths, else 20, or more if one waits", x, x.situation(1, 1, 4, 5),
            28 + 28 + 28 + 30 + 40, 5);
        c.fraction("S(1, 1, 5, 4): 40 with 7 tenths, else 20", x, x.situation(1, 1, 5, 4), 34, 1);
        c.fraction("S(1, 2, 5, 4): 40 with 7 tenths, and 20", x, x.situation(1, 2, 5, 4), 48, 1);
        // Behind the last one: 4 levels and none
        for (int level = 0; level <= 4; level++) {
            c.fraction("S(2, 1, " + level + ", 5)", x, x.situation(2, 1, level, 5), 3 * level, 1);
            c.fraction("S(2, 1, 5, " + level + ")", x, x.situation(2, 1, 5, level), 7 * level, 1);
        }
        c.fraction("S(2, 1, 5, 5)", x, x.situation(2, 1, 5, 5), 0, 1);
    }

    private static void goingOnIsNotNegative() {
        c.sentence(0, "Q(i, j, a, b) is 0 if j is 0 or i is n + 1; otherwise it is the greater one of 0 and X - c,");
        for (int n = 1; n <= 7; n++) {
            StoppingPlanner x = Checks.planner("n" + n + ";k2;v9 9 9 9 9;");
            for (int cost = 7; cost <= 11; cost++) {
                x.setCount(2, cost);
                for (int i = 1; i <= n; i++) {
                    c.fraction("S(" + i + ", 1, 5, 5)", x, x.situation(i, 1, 5, 5), Math.max(0, 9 - cost), 1);
                    c.due("observes(" + i + ", 1, 5, 5)", x.observes(i, 1, 5, 5), cost < 9 ? 1 : 0);
                    c.due("observes(" + i + ", 0, 5, 5)", x.observes(i, 0, 5, 5), 0);
                }
                c.fraction("S(n + 1, 2, 5, 5)", x, x.situation(n + 1, 2, 5, 5), 0, 1);
                c.due("observes(n + 1, 2, 5, 5)", x.observes(n + 1, 2, 5, 5), 0);
                c.fraction("S(n, 2, 5, 5)", x, x.situation(n, 2, 5, 5), Math.max(0, 9 - cost), 1);
            }
        }
        StoppingPlanner x = Checks.planner("n1;v10 10 10 10 11;w9 0 0 0 1;c10;");
        c.fraction("S(1, 1, 5, 5): X is 101 / 10", x, x.situation(1, 1, 5, 5), 1, 10);
        x.setLevel(4, 9);
        c.fraction("S(1, 1, 5, 5): X is 99 / 10", x, x.situation(1, 1, 5, 5), 0, 1);
        staleEnds();
    }

    /** Another n must not leave values behind where there is no candidate now. */
    private static void staleEnds() {
        for (int n = 1; n <= 6; n++) {
            for (int k = 1; k <= 3; k++) {
                StoppingPlanner x = Checks.planner("n7;k3;r10 10;");
                x.situation(1, 3, 5, 5);
                x.fixed(0);
                x.recallGain();
                x.setCount(0, n);
                x.setCount(1, k);
                for (int j = 0; j <= k; j++) {
                    c.fraction("S(n + 1, j, 5, 5) after n was 7", x, x.situation(n + 1, j, 5, 5), 0, 1);
                    c.fraction("S(n + 1, j, 4, 2) after n was 7", x, x.situation(n + 1, j, 4, 2), j == 0 ? 0 : 40, 1);
                }
                c.fraction("S(n, 1, 5, 5) after n was 7", x, x.situation(n, 1, 5, 5), 20, 1);
                c.fraction("fixed(0) after n was 7", x, x.fixed(0), 20 * Math.min(n, k), 1);
                c.fraction("fixed(41) after n was 7", x, x.fixed(41), 0, 1);
                c.due("recallGain() after n was 7 is not 0", x.recallGain() > 0, n > k);
            }
        }
    }

    private static void noRecallAtATie() {
        c.sentence(0, "The best policy: of these possibilities, no recall is taken if its value is the greatest one,");
        // Who comes is worth 30; a recall is sure, but leaves no choice.
        String text = "n1;v30 29 30 31 99;w10 0 0 0 0;";
        StoppingPlanner x = Checks.planner(text + "r10 0;");
        int[] ofAge1 = {0, 0, 0, 1, 1, 0};
        for (int a = 0; a <= 5; a++) {
            c.due("recalls(1, 1, " + a + ", 5)", x.recalls(1, 1, a, 5), ofAge1[a]);
            c.due("recalls(1, 1, " + a + ", 4) without a chance of age 2", x.recalls(1, 1, a, 4), ofAge1[a]);
        }
        x = Checks.planner(text + "r0 10;");
        int[] ofAge2 = {0, 0, 0, 2, 2, 0};
        for (int b = 0; b <= 5; b++) {
            c.due("recalls(1, 1, 5, " + b + ")", x.recalls(1, 1, 5, b), ofAge2[b]);
        }
        x = Checks.planner("n2;r0 0;");
        c.due("recalls(3, 1, 4, 4): chances of 0, all are worth 0", x.recalls(3, 1, 4, 4), 0);
        x = Checks.planner("n2;r10 10;");
        c.due("recalls(3, 1, 0, 0): values of 0, all are worth 0", x.recalls(3, 1, 0, 0), 0);
        c.due("recalls(3, 0, 4, 4): no choice, all are worth 0", x.recalls(3, 0, 4, 4), 0);
        c.due("recalls(3, 1, 0, 1)", x.recalls(3, 1, 0, 1), 2);
    }

    private static void ageOneAtATie() {
        c.sentence(0, "otherwise the recall of age 1, if that is, otherwise the recall of age 2.");
        StoppingPlanner x = Checks.planner("n1;v39 40 41 40 80;r10 10;");
        c.due("recalls(2, 1, 1, 1)", x.recalls(2, 1, 1, 1), 1);
        c.due("recalls(2, 1, 1, 3): levels of the same value", x.recalls(2, 1, 1, 3), 1);
        c.due("recalls(2, 1, 1, 0)", x.recalls(2, 1, 1, 0), 1);
        c.due("recalls(2, 1, 1, 2)", x.recalls(2, 1, 1, 2), 2);
        c.due("recalls(2, 1, 0, 1)", x.recalls(2, 1, 0, 1), 2);
        x.setRecall(2, 5);
        c.due("recalls(2, 1, 1, 4): 40, and the half of 80", x.recalls(2, 1, 1, 4), 1);
        c.due("recalls(2, 1, 0, 4): 39, and the half of 80", x.recalls(2, 1, 0, 4), 2);
        c.due("recalls(2, 1, 2, 4): 41, and the half of 80", x.recalls(2, 1, 2, 4), 1);
    }

    private static void quitsAtZero() {
        c.sentence(0, "One quits if Q is 0.");
        StoppingPlanner x = Checks.planner("n3;k2;c19;");
        for (int cost = 18; cost <= 20; cost++) {
            x.setCount(2, cost);
            for (int i = 1; i <= 3; i++) {
                c.due("observes(" + i + ", 2, 5, 5) for " + cost, x.observes(i, 2, 5, 5), cost < 20 ? 1 : 0);
            }
            c.due("observes(4, 2, 5, 5)", x.observes(4, 2, 5, 5), 0);
            c.due("observes(1, 0, 5, 5)", x.observes(1, 0, 5, 5), 0);
            c.due("simulateValues(1, 1) for " + cost, x.simulateValues(1, 1) > 0, cost < 20);
        }
        // Q is 0, but a recall is worth something; then one quits.
        x = Checks.planner("n1;c20;r10 10;");
        c.due("recalls(1, 1, 4, 5)", x.recalls(1, 1, 4, 5), 1);
        c.due("observes(1, 1, 5, 5)", x.observes(1, 1, 5, 5), 0);
    }

    private static void choosesAtATie() {
        c.sentence(0, "Otherwise one observes, and chooses a candidate of level l if value of l + S(i + 1, j - 1, 5,"
            + " a) is at least S(i + 1, j, l, a).");
        StoppingPlanner x = Checks.planner("n2;v19 20 21 20 20;w0 2 0 4 4;");
        // The next one is worth 20.
        c.due("choosesLevel(1, 1, 5, 0)", x.choosesLevel(1, 1, 5, 0), 0);
        c.due("choosesLevel(1, 1, 5, 1)", x.choosesLevel(1, 1, 5, 1), 1);
        c.due("choosesLevel(1, 1, 5, 2)", x.choosesLevel(1, 1, 5, 2), 1);
        c.due("valueThreshold(1, 1, 5)", x.valueThreshold(1, 1, 5), 20);
        c.due("simulateValues(1, 1)", x.simulateValues(1, 1), 1);
        x = Checks.planner("n1;v0 20 21 19 0;r0 10;");
        // With age 2, 20 is recalled for sure.
        c.due("choosesLevel(1, 1, 1, 3)", x.choosesLevel(1, 1, 1, 3), 0);
        c.due("choosesLevel(1, 1, 1, 1)", x.choosesLevel(1, 1, 1, 1), 1);
        c.due("choosesLevel(1, 1, 1, 2)", x.choosesLevel(1, 1, 1, 2), 1);
        c.due("choosesLevel(1, 1, 5, 0): 0 is chosen where nothing follows", x.choosesLevel(1, 1, 5, 0), 1);
        x.setCount(1, 2);
        c.due("choosesLevel(1, 2, 1, 0): both are chosen", x.choosesLevel(1, 2, 1, 0), 1);
        // With two choices left: 12 and the better one of the two that follow, or both of them: 12 + 28, or 20 + 20.
        x = Checks.planner("n3;k2;v99 11 12 4 36;w0 0 0 5 5;r10 0;");
        c.fraction("S(2, 1, 5, 5)", x, x.situation(2, 1, 5, 5), 28, 1);
        c.fraction("S(2, 2, 5, 5)", x, x.situation(2, 2, 5, 5), 40, 1);
        c.due("choosesLevel(1, 2, 5, 1) of 11", x.choosesLevel(1, 2, 5, 1), 0);
        c.due("choosesLevel(1, 2, 5, 2) of 12", x.choosesLevel(1, 2, 5, 2), 1);
        c.due("choosesLevel(1, 1, 5, 2) of 12", x.choosesLevel(1, 1, 5, 2), 0);
    }

    // ---- promises 19 to 23

    private static void situationRanges() {
        c.sentence(19, "- `i`: 1 to n + 1 - `j`: 0 to k - `a`: the level of the remembered candidate of age 1, 0 to 4,"
            + " or 5 for none - `b`: the level of the remembered candidate of age 2, 0 to 4, or 5 for none");
        ranges("situation", BAD_FRACTION, StoppingPlanner::situation);
    }

    /** Asks a planner whose n and k change with everything that is in the range, and beside it. */
    private static void ranges(String method, long refusal, Question question) {
        StoppingPlanner x = Checks.planner("r7 3;");
        for (int n : SIZES) {
            for (int k : new int[] {1, 3, 2}) {
                x.setCount(0, n);
                x.setCount(1, k);
                String size = ", n = " + n + ", k = " + k;
                for (int other = 0; other <= 5; other++) {
                    int level = other;
                    int left = other % (k + 1);
                    int place = 1 + other % (n + 1);
                    c.range(method + " of i" + size, 1, n + 1, refusal,
                        i -> question.ask(x, i, left, level, 5 - level));
                    c.range(method + " of j" + size, 0, k, refusal, j -> question.ask(x, place, j, level, 5 - level));
                    c.range(method + " of a" + size, 0, 5, refusal, a -> question.ask(x, place, left, a, level));
                    c.range(method + " of b" + size, 0, 5, refusal, b -> question.ask(x, place, left, level, b));
                }
            }
        }
    }

    private static void situationRefuses() {
        c.sentence(19, "Returns the numerator; BAD_FRACTION if an argument is out of range.");
        refuses("situation", BAD_FRACTION, StoppingPlanner::situation);
        StoppingPlanner x = Checks.planner("n1;r7 3;");
        c.due("situation(3, 1, 5, 5)", x.situation(3, 1, 5, 5), BAD_FRACTION);
        c.due("denominator() where no fraction was returned", x.denominator(), 1);
        c.fraction("situation(2, 1, 4, 4)", x, x.situation(2, 1, 4, 4), 28, 1);
        c.fraction("situation(2, 1, 5, 4)", x, x.situation(2, 1, 5, 4), 12, 1);
    }

    /** One argument is wrong, or several are. */
    private static void refuses(String method, long refusal, Question question) {
        for (int n = 1; n <= 7; n++) {
            for (int k = 1; k <= 3; k++) {
                StoppingPlanner x = Checks.planner("n" + n + ";k" + k + ";r7 3;");
                int[][] refused = {
                    {0, 1, 5, 5}, {n + 2, 1, 5, 5}, {1, -1, 5, 5}, {1, k + 1, 5, 5}, {1, 1, -1, 5}, {1, 1, 6, 5},
                    {1, 1, 5, -1}, {1, 1, 5, 6}, {n + 1, 0, 6, 0}, {n + 1, 0, 0, 6}, {0, -1, 5, 5},
                    {n + 2, k + 1, 6, 6}, {1, 0, -1, 6}, {0, 0, 0, 0}, {n + 2, 0, 5, 5}, {1, k + 1, 0, 0}};
                for (int[] r : refused) {
                    String call = method + "(" + r[0] + ", " + r[1] + ", " + r[2] + ", " + r[3] + "), n = " + n
                        + ", k = " + k;
                    c.due(call, question.ask(x, r[0], r[1], r[2], r[3]), refusal);
                }
            }
        }
    }

    private static void recallsRanges() {
        c.sentence(20, "- `i`: 1 to n + 1 - `j`: 0 to k - `a`: 0 to 5 - `b`: 0 to 5");
        ranges("recalls", BAD, StoppingPlanner::recalls);
    }

    private static void recallsAnswers() {
        c.sentence(20, "Returns 0 for none, 1 or 2 for the age of the candidate that is recalled; BAD if an argument"
            + " is out of range.");
        refuses("recalls", BAD, StoppingPlanner::recalls);
        for (int n = 1; n <= 7; n++) {
            for (int k = 1; k <= 3; k++) {
                StoppingPlanner x = Checks.planner("n" + n + ";k" + k + ";r7 3;");
                c.due("recalls(n + 1, k, 4, 4)", x.recalls(n + 1, k, 4, 4), 1);
                c.due("recalls(n + 1, k, 1, 4)", x.recalls(n + 1, k, 1, 4), 2);
                c.due("recalls(n + 1, k, 5, 5)", x.recalls(n + 1, k, 5, 5), 0);
                c.due("recalls(n + 1, 0, 4, 4)", x.recalls(n + 1, 0, 4, 4), 0);
            }
        }
    }

    private static void observesRanges() {
        c.sentence(21, "- `i`: 1 to n + 1 - `j`: 0 to k - `a`: 0 to 5 - `b`: 0 to 5");
        ranges("observes", BAD, StoppingPlanner::observes);
    }

    private static void observesAnswers() {
        c.sentence(21, "Returns 1 if it observes, 0 if it quits; BAD if an argument is out of range.");
        refuses("observes", BAD, StoppingPlanner::observes);
        for (int n = 1; n <= 7; n++) {
            for (int k = 1; k <= 3; k++) {
                StoppingPlanner x = Checks.planner("n" + n + ";k" + k + ";c19;");
                c.due("observes(n, k, 5, 5)", x.observes(n, k, 5, 5), 1);
                c.due("observes(n, 1, 5, 5)", x.observes(n, 1, 5, 5), 1);
                c.due("observes(n, 0, 5, 5)", x.observes(n, 0, 5, 5), 0);
                c.due("observes(n + 1, k, 5, 5)", x.observes(n + 1, k, 5, 5), 0);
            }
        }
        // With age 1 now, 40 is recalled after an observation that is not worth its cost by itself.
        StoppingPlanner x = Checks.planner("n1;c20;r0 10;");
        c.due("observes(1, 1, 4, 5)", x.observes(1, 1, 4, 5), 1);
        c.due("observes(1, 1, 0, 5)", x.observes(1, 1, 0, 5), 0);
        c.due("observes(1, 1, 5, 4): age 2 is forgotten then", x.observes(1, 1, 5, 4), 0);
    }

    private static void choosesLevelRanges() {
        c.sentence(22, "- `i`: the candidate, 1 to n - `j`: the choices that are left, 1 to k - `a`: the level of the"
            + " remembered candidate that had age 1 before the observation, 0 to 5 - `level`: the level of the"
            + " candidate, 0 to 4");
        StoppingPlanner x = Checks.planner("r7 3;");
        for (int n : SIZES) {
            for (int k : new int[] {1, 3, 2}) {
                x.setCount(0, n);
                x.setCount(1, k);
                String size = ", n = " + n + ", k = " + k;
                for (int other = 0; other <= 5; other++) {
                    int memory = other;
                    int some = other % 5;
                    int left = 1 + other % k;
                    int place = 1 + other % n;
                    c.range("choosesLevel of i" + size, 1, n, BAD, i -> x.choosesLevel(i, left, memory, some));
                    c.range("choosesLevel of j" + size, 1, k, BAD, j -> x.choosesLevel(place, j, memory, some));
                    c.range("choosesLevel of a" + size, 0, 5, BAD, a -> x.choosesLevel(place, left, a, some));
                    c.range("choosesLevel of level" + size, 0, 4, BAD,
                        level -> x.choosesLevel(place, left, memory, level));
                }
            }
        }
    }

    private static void choosesLevelAnswers() {
        c.sentence(22, "Returns 1 if it chooses the candidate, else 0; BAD if an argument is out of range.");
        for (int n = 1; n <= 7; n++) {
            for (int k = 1; k <= 3; k++) {
                StoppingPlanner x = Checks.planner("n" + n + ";k" + k + ";");
                int[][] refused = {
                    {0, 1, 5, 0}, {n + 1, 1, 5, 0}, {1, 0, 5, 0}, {1, k + 1, 5, 0}, {1, 1, -1, 0}, {1, 1, 6, 0},
                    {1, 1, 5, -1},
                    {1, 1, 5, 5}, {n, k, 6, 5}, {n + 1, 0, 5, 4}, {0, k, 0, 5}, {0, 0, 0, 0}};
                for (int[] r : refused) {
                    String call = "choosesLevel(" + r[0] + ", " + r[1] + ", " + r[2] + ", " + r[3] + "), n = " + n
                        + ", k = " + k;
                    c.due(call, x.choosesLevel(r[0], r[1], r[2], r[3]), BAD);
                }
                c.due("choosesLevel(n, k, 5, 0): nobody comes any more", x.choosesLevel(n, k, 5, 0), 1);
                c.due("choosesLevel(1, k, 5, 0): as many come as can be chosen, or more", x.choosesLevel(1, k, 5, 0),
                    n <= k ? 1 : 0);
            }
        }
    }

    private static void valueThresholdIsTheSmallest() {
        c.sentence(23, "Returns the value threshold: the smallest value of a level that is chosen.");
        // The next one is worth 50, in whatever order the levels stand.
        int[][] orders = {{49, 50, 51, 50, 99}, {99, 51, 50, 49, 50}, {50, 49, 99, 51, 50}, {51, 99, 49, 50, 50}};
        for (int[] order : orders) {
            StoppingPlanner x = Checks.planner("n2;w0 0 0 0 10;");
            for (int level = 0; level <= 4; level++) {
                x.setLevel(level, order[level]);
                if (order[level] == 50) {
                    x.shiftWeight(4, level, x.parameter(19));
                }
            }
            for (int level = 0; level <= 3; level++) {
                if (order[level] != 50) {
                    x.shiftWeight(level, order[4] == 50 ? 4 : 3, x.parameter(15 + level));
                }
            }
            c.fraction("S(2, 1, 5, 5)", x, x.situation(2, 1, 5, 5), 50, 1);
            c.due("valueThreshold(1, 1, 5)", x.valueThreshold(1, 1, 5), 50);
            c.due("valueThreshold(2, 1, 5)", x.valueThreshold(2, 1, 5), 49);
        }
        StoppingPlanner x = Checks.planner("n2;v0 99 0 0 98;w10 0 0 0 0;");
        c.due("valueThreshold(2, 1, 5) of 0", x.valueThreshold(2, 1, 5), 0);
        x.setRecall(2, 10);
        c.due("valueThreshold(2, 1, 1): 99 is recalled", x.valueThreshold(2, 1, 1), 99);
        c.due("valueThreshold(2, 1, 4): 98 is recalled", x.valueThreshold(2, 1, 4), 98);
    }

    private static void valueThresholdRanges() {
        c.sentence(23, "- `i`: the candidate, 1 to n - `j`: the choices that are left, 1 to k - `a`: 0 to 5");
        StoppingPlanner x = Checks.planner("r7 3;");
        for (int n : SIZES) {
            for (int k : new int[] {1, 3, 2}) {
                x.setCount(0, n);
                x.setCount(1, k);
                String size = ", n = " + n + ", k = " + k;
                for (int other = 0; other <= 5; other++) {
                    int memory = other;
                    int left = 1 + other % k;
                    int place = 1 + other % n;
                    c.range("valueThreshold of i" + size, 1, n, BAD, i -> x.valueThreshold(i, left, memory));
                    c.range("valueThreshold of j" + size, 1, k, BAD, j -> x.valueThreshold(place, j, memory));
                    c.range("valueThreshold of a" + size, 0, 5, BAD, a -> x.valueThreshold(place, left, a));
                }
            }
        }
    }

    private static void valueThresholdAnswers() {
        c.sentence(23, "Returns the value; NONE if no level is chosen; BAD if an argument is out of range.");
        for (int n = 1; n <= 7; n++) {
            for (int k = 1; k <= 3; k++) {
                StoppingPlanner x = Checks.planner("n" + n + ";k" + k + ";r2 9;");
                int[][] refused = {
                    {0, 1, 5}, {n + 1, 1, 5}, {1, 0, 5}, {1, k + 1, 5}, {1, 1, -1}, {1, 1, 6}, {n, k, 6}, {0, 0, 0},
                    {n + 1, k + 1, 6}};
                for (int[] r : refused) {
                    String call = "valueThreshold(" + r[0] + ", " + r[1] + ", " + r[2] + "), n = " + n + ", k = " + k;
                    c.due(call, x.valueThreshold(r[0], r[1], r[2]), BAD);
                }
                isOfALevelThatIsChosen(x, n, k);
            }
        }
    }

    /** The greatest value is always chosen, so that NONE never comes. */
    private static void isOfALevelThatIsChosen(StoppingPlanner x, int n, int k) {
        for (int i = 1; i <= n; i++) {
            for (int a = 0; a <= 5; a++) {
                int smallest = NONE;
                for (int level = 4; level >= 0; level--) {
                    smallest = x.choosesLevel(i, k, a, level) == 1 ? x.parameter(10 + level) : smallest;
                }
                c.due("valueThreshold(" + i + ", " + k + ", " + a + ")", x.valueThreshold(i, k, a), smallest);
                c.due("the greatest value is chosen", x.choosesLevel(i, k, a, 4), 1);
            }
        }
    }
}
