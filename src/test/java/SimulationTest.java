/** Promises 29 and 30: the simulations, compared with policies that are laid down here by hand. */
public final class SimulationTest {
    private static final int BAD = StoppingPlanner.BAD;
    private static final int[] ODD = {Integer.MIN_VALUE, -1000, -1, 5, 1000, Integer.MAX_VALUE};
    private static final int[] SEEDS = {0, 1, -1, 7, 12345, Integer.MIN_VALUE, Integer.MAX_VALUE};
    private static final Checks c = new Checks("SimulationTest");

    public static void main(String[] args) {
        secretaries();
        allAreChosen();
        quitsAtOnce();
        wrongArguments();
        oneSureRecall();
        levelsByWeight();
        recallsBetweenObservations();
        nothingChanges();
        c.end();
    }

    private static int seed(int number) {
        return number < SEEDS.length ? SEEDS[number] : number * 7654321;
    }

    /** n = 3, the best one only: pass the first one, then choose whoever is better, else the last one. */
    private static void secretaries() {
        c.promise(29);
        StoppingPlanner x = Checks.planner("n3;p90 20 5;");
        c.due("rankThreshold(1, 1)", x.rankThreshold(1, 1), 0);
        c.due("rankThreshold(2, 1)", x.rankThreshold(2, 1), 1);
        for (int number = 0; number < 400; number++) {
            int seed = seed(number);
            Numbers numbers = new Numbers(seed);
            numbers.next();
            boolean secondIsBetter = numbers.next() % 2 == 0;
            int third = 1 + numbers.next() % 3;
            int payoff = secondIsBetter ? (third == 1 ? 20 : 90) : new int[] {90, 20, 5}[third - 1];
            c.due("simulateRanks(" + seed + ", 0)", x.simulateRanks(seed, 0), payoff);
            c.due("simulateRanks(" + seed + ", 1)", x.simulateRanks(seed, 1), secondIsBetter ? 2 : 3);
            c.due("simulateRanks(" + seed + ", 2)", x.simulateRanks(seed, 2), secondIsBetter ? 2 : 4);
        }
    }

    private static void allAreChosen() {
        c.promise(29);
        StoppingPlanner x = Checks.planner("n3;k3;p50 40 30;c2;");
        StoppingPlanner one = Checks.planner("n1;p98;c20;");
        for (int seed : SEEDS) {
            c.due("simulateRanks(" + seed + ", 0)", x.simulateRanks(seed, 0), 120);
            c.due("simulateRanks(" + seed + ", 1)", x.simulateRanks(seed, 1), 3);
            c.due("simulateRanks(" + seed + ", 2)", x.simulateRanks(seed, 2), 7);
            c.due("simulateRanks(" + seed + ", 0), one", one.simulateRanks(seed, 0), 98);
            c.due("simulateRanks(" + seed + ", 1), one", one.simulateRanks(seed, 1), 1);
            c.due("simulateRanks(" + seed + ", 2), one", one.simulateRanks(seed, 2), 1);
        }
    }

    private static void quitsAtOnce() {
        StoppingPlanner x = Checks.planner("n4;k2;p20 20 20 20;c20;v20 20 20 20 20;r10 10;");
        for (int seed : SEEDS) {
            c.promise(29);
            for (int what = 0; what <= 2; what++) {
                c.due("simulateRanks(" + seed + ", " + what + ")", x.simulateRanks(seed, what), 0);
            }
            c.promise(30);
            for (int what = 0; what <= 4; what++) {
                c.due("simulateValues(" + seed + ", " + what + ")", x.simulateValues(seed, what), 0);
            }
        }
    }

    private static void wrongArguments() {
        StoppingPlanner x = new StoppingPlanner();
        c.promise(29);
        c.due("simulateRanks(0, 3)", x.simulateRanks(0, 3), BAD);
        c.promise(30);
        for (int odd : ODD) {
            c.promise(29);
            c.due("simulateRanks(0, " + odd + ")", x.simulateRanks(0, odd), BAD);
            c.promise(30);
            c.due("simulateValues(0, " + odd + ")", x.simulateValues(0, odd), BAD);
        }
    }

    private static int level(int number, int[] weights) {
        int level = 0;
        int sum = weights[0];
        while (number >= sum) {
            level++;
            sum += weights[level];
        }
        return level;
    }

    /**
     * n = 2, age 2 is recalled with nine tenths: 40 is chosen at once, all others are passed; then the
     * second one is chosen if it is not worse than the first one, which is recalled otherwise.
     */
    private static void oneSureRecall() {
        c.promise(30);
        StoppingPlanner x = Checks.planner("n2;r0 9;");
        int[] weights = {2, 2, 2, 2, 2};
        int recalled = 0;
        int missed = 0;
        for (int number = 0; number < 600; number++) {
            int seed = seed(number);
            Numbers numbers = new Numbers(seed);
            int first = level(numbers.next() % 10, weights);
            int[] due = {40, 1, 1, 0, 0};
            if (first != 4) {
                int second = level(numbers.next() % 10, weights);
                due = new int[] {10 * second, 2, 2, 0, 0};
                if (second < first) {
                    boolean succeeds = numbers.next() % 10 < 9;
                    due = new int[] {succeeds ? 10 * first : 0, 2, 0, 1, succeeds ? 1 : 0};
                    recalled += succeeds ? 1 : 0;
                    missed += succeeds ? 0 : 1;
                }
            }
            for (int what = 0; what <= 4; what++) {
                c.due("simulateValues(" + seed + ", " + what + ")", x.simulateValues(seed, what), due[what]);
            }
        }
        c.due("some recalls succeed and some don't", recalled > 0 && missed > 0, true);
    }

    /** n = 1: whoever comes is chosen; levels without weight never come. */
    private static void levelsByWeight() {
        c.promise(30);
        StoppingPlanner x = Checks.planner("n1;w0 7 0 3 0;v0 0 9 50 9;r10 10;");
        int[] weights = {0, 7, 0, 3, 0};
        for (int number = 0; number < 100; number++) {
            int seed = seed(number);
            int only = level(new Numbers(seed).next() % 10, weights);
            int[] due = {only == 3 ? 50 : 0, 1, 1, 0, 0};
            for (int what = 0; what <= 4; what++) {
                c.due("simulateValues(" + seed + ", " + what + ")", x.simulateValues(seed, what), due[what]);
            }
        }
    }

    private static void recallsBetweenObservations() {
        c.promise(30);
        // A sure recall draws a number, too, so that the next candidate's level is another one.
        followPolicy(Checks.planner("n4;k2;r0 10;"));
        followPolicy(Checks.planner("n7;k3;w1 2 3 2 2;v10 20 30 40 60;r6 9;c2;"));
        followPolicy(Checks.planner("n7;k3;w3 0 0 6 1;v0 20 30 5 60;r10 4;c1;"));
    }

    /** Asks the planner itself what the best policy does. */
    private static void followPolicy(StoppingPlanner x) {
        int[] weights = new int[5];
        for (int level = 0; level < 5; level++) {
            weights[level] = x.parameter(15 + level);
        }
        int observedAfterRecalls = 0;
        for (int number = 0; number < 200; number++) {
            int seed = seed(number);
            Numbers numbers = new Numbers(seed);
            int[] due = new int[5];
            int left = x.parameter(1);
            int a = 5;
            int b = 5;
            for (int i = 1; i <= x.parameter(0) + 1; i++) {
                int age = x.recalls(i, left, a, b);
                if (age > 0) {
                    due[3]++;
                    if (numbers.next() % 10 < x.parameter(19 + age)) {
                        due[0] += x.parameter(10 + (age == 1 ? a : b));
                        due[4]++;
                        left--;
                    }
                    a = age == 1 ? 5 : a;
                    b = age == 2 ? 5 : b;
                }
                if (x.observes(i, left, a, b) == 0) {
                    break;
                }
                due[1]++;
                observedAfterRecalls += due[3] > 0 ? 1 : 0;
                int level = level(numbers.next() % 10, weights);
                boolean chosen = x.choosesLevel(i, left, a, level) == 1;
                if (chosen) {
                    due[0] += x.parameter(10 + level);
                    due[2] += 1 << (i - 1);
                    left--;
                }
                b = a;
                a = chosen ? 5 : level;
            }
            for (int what = 0; what <= 4; what++) {
                c.due("simulateValues(" + seed + ", " + what + ")", x.simulateValues(seed, what), due[what]);
            }
        }
        c.due("some are observed after a recall", observedAfterRecalls > 0, true);
    }

    private static void nothingChanges() {
        StoppingPlanner x = new StoppingPlanner();
        x.rankValue(1, 1);
        long digest = x.digest();
        c.promise(29);
        c.due("simulateRanks twice", x.simulateRanks(5, 0), x.simulateRanks(5, 0));
        c.promise(30);
        c.due("simulateValues twice", x.simulateValues(5, 0), x.simulateValues(5, 0));
        c.due("digest()", x.digest(), digest);
        c.due("denominator()", x.denominator(), 10);
    }
}
