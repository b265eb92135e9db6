/** Promises 12 to 18: the rank problem, mostly with numbers that can be found by hand. */
public final class RankProblemTest {
    private static final long BAD_FRACTION = StoppingPlanner.BAD_FRACTION;
    private static final int BAD = StoppingPlanner.BAD;
    private static final int[] ODD = {Integer.MIN_VALUE, -1000, -1, 8, 1000, Integer.MAX_VALUE};
    private static final Checks c = new Checks("RankProblemTest");

    public static void main(String[] args) {
        worth();
        rankValue();
        choosesRank();
        rankThreshold();
        rankExpectation();
        skipping();
        bestSkip();
        everyOrder();
        c.end();
    }

    private static void worth() {
        c.promise(12);
        StoppingPlanner x = Checks.planner("n3;p90 30 6;");
        c.fraction("worth(1, 1)", x, x.worth(1, 1), 42, 1);
        c.fraction("worth(2, 1)", x, x.worth(2, 1), 70, 1);
        c.fraction("worth(2, 2)", x, x.worth(2, 2), 14, 1);
        c.fraction("worth(3, 1)", x, x.worth(3, 1), 90, 1);
        c.fraction("worth(3, 2)", x, x.worth(3, 2), 30, 1);
        c.fraction("worth(3, 3)", x, x.worth(3, 3), 6, 1);
        x = Checks.planner("n7;p0 0 0 1;");
        // of the C(7, 3) sets that candidates 1 to 3 can be, those in which rank 4 is the second one
        c.fraction("worth(3, 2)", x, x.worth(3, 2), 9, 35);
        c.fraction("worth(1, 1)", x, x.worth(1, 1), 1, 7);
        c.fraction("worth(6, 6)", x, x.worth(6, 6), 0, 1);
        x = Checks.planner("n7;p0 0 0 0 0 0 7;");
        c.fraction("worth(6, 6)", x, x.worth(6, 6), 6, 1);
        c.fraction("worth(7, 7)", x, x.worth(7, 7), 7, 1);
        wrongWorths(x, 7);
        x.setCount(0, 1);
        c.fraction("worth(1, 1)", x, x.worth(1, 1), 0, 1);
        x.setPayoff(1, 98);
        c.fraction("worth(1, 1)", x, x.worth(1, 1), 98, 1);
        wrongWorths(x, 1);
    }

    private static void wrongWorths(StoppingPlanner x, int n) {
        long denominator = x.denominator();
        c.due("worth(0, 0)", x.worth(0, 0), BAD_FRACTION);
        c.due("worth(0, 1)", x.worth(0, 1), BAD_FRACTION);
        c.due("worth(1, 0)", x.worth(1, 0), BAD_FRACTION);
        c.due("worth(1, 2)", x.worth(1, 2), BAD_FRACTION);
        c.due("worth(n, n + 1)", x.worth(n, n + 1), BAD_FRACTION);
        c.due("worth(n + 1, 1)", x.worth(n + 1, 1), BAD_FRACTION);
        for (int odd : ODD) {
            c.due("worth(1, " + odd + ")", x.worth(1, odd), BAD_FRACTION);
            c.due("worth(" + odd + ", 1)", x.worth(odd, 1), BAD_FRACTION);
        }
        c.due("denominator()", x.denominator(), denominator);
    }

    private static void rankValue() {
        c.promise(13);
        StoppingPlanner x = Checks.planner("n3;p99 0 0;");
        c.fraction("rankValue(4, 1)", x, x.rankValue(4, 1), 0, 1);
        c.fraction("rankValue(3, 1)", x, x.rankValue(3, 1), 33, 1);
        c.fraction("rankValue(2, 1)", x, x.rankValue(2, 1), 99, 2);
        c.fraction("rankValue(1, 1)", x, x.rankValue(1, 1), 99, 2);
        c.fraction("rankValue(1, 0)", x, x.rankValue(1, 0), 0, 1);
        x.setCount(2, 16);
        c.fraction("rankValue(3, 1)", x, x.rankValue(3, 1), 17, 1);
        // the better one of 66 and 17, and of 0 and 17, minus 16
        c.fraction("rankValue(2, 1)", x, x.rankValue(2, 1), 51, 2);
        c.fraction("rankValue(1, 1)", x, x.rankValue(1, 1), 17, 1);
        // The last one is worth 20 on the average, and so is who is chosen as the first one: no more than the cost.
        x = Checks.planner("n2;p40 0;c20;");
        c.fraction("rankValue(2, 1)", x, x.rankValue(2, 1), 0, 1);
        c.fraction("rankValue(1, 1)", x, x.rankValue(1, 1), 0, 1);
        x = Checks.planner("n2;k2;p0 8;c5;");
        c.fraction("rankValue(2, 1)", x, x.rankValue(2, 1), 0, 1);
        c.fraction("rankValue(1, 1)", x, x.rankValue(1, 1), 0, 1);
        x = Checks.planner("n3;k3;p99 99 99;");
        c.fraction("rankValue(1, 3)", x, x.rankValue(1, 3), 297, 1);
        c.fraction("rankValue(2, 3)", x, x.rankValue(2, 3), 198, 1);
        c.fraction("rankValue(1, 2)", x, x.rankValue(1, 2), 198, 1);
        c.due("rankValue(0, 1)", x.rankValue(0, 1), BAD_FRACTION);
        c.due("rankValue(5, 1)", x.rankValue(5, 1), BAD_FRACTION);
        c.due("rankValue(1, -1)", x.rankValue(1, -1), BAD_FRACTION);
        c.due("rankValue(1, 4)", x.rankValue(1, 4), BAD_FRACTION);
        x.setCount(1, 2);
        c.due("rankValue(1, 3)", x.rankValue(1, 3), BAD_FRACTION);
        for (int odd : ODD) {
            c.due("rankValue(" + odd + ", 1)", x.rankValue(odd, 1), BAD_FRACTION);
            c.due("rankValue(1, " + odd + ")", x.rankValue(1, odd), BAD_FRACTION);
        }
    }

    private static void choosesRank() {
        c.promise(14);
        StoppingPlanner x = Checks.planner("n3;p99;");
        c.due("choosesRank(1, 1, 1)", x.choosesRank(1, 1, 1), 0);
        c.due("choosesRank(2, 1, 1)", x.choosesRank(2, 1, 1), 1);
        c.due("choosesRank(2, 1, 2)", x.choosesRank(2, 1, 2), 0);
        c.due("choosesRank(3, 1, 3)", x.choosesRank(3, 1, 3), 1);
        x.setCount(0, 2);
        // worth 99 / 2 as much as passing
        c.due("choosesRank(1, 1, 1)", x.choosesRank(1, 1, 1), 1);
        x = Checks.planner("n3;k2;p99;c20;");
        c.due("choosesRank(1, 2, 1) where one has quit", x.choosesRank(1, 2, 1), 1);
        c.due("choosesRank(1, 0, 1)", x.choosesRank(1, 0, 1), BAD);
        c.due("choosesRank(1, 3, 1)", x.choosesRank(1, 3, 1), BAD);
        c.due("choosesRank(0, 1, 1)", x.choosesRank(0, 1, 1), BAD);
        c.due("choosesRank(4, 1, 1)", x.choosesRank(4, 1, 1), BAD);
        c.due("choosesRank(2, 1, 3)", x.choosesRank(2, 1, 3), BAD);
        c.due("choosesRank(2, 1, 0)", x.choosesRank(2, 1, 0), BAD);
        for (int odd : ODD) {
            c.due("choosesRank(" + odd + ", 1, 1)", x.choosesRank(odd, 1, 1), BAD);
            c.due("choosesRank(1, " + odd + ", 1)", x.choosesRank(1, odd, 1), BAD);
            c.due("choosesRank(1, 1, " + odd + ")", x.choosesRank(1, 1, odd), BAD);
        }
    }

    private static void rankThreshold() {
        c.promise(15);
        StoppingPlanner x = Checks.planner("n3;p99;");
        c.due("rankThreshold(1, 1)", x.rankThreshold(1, 1), 0);
        c.due("rankThreshold(2, 1)", x.rankThreshold(2, 1), 1);
        c.due("rankThreshold(3, 1)", x.rankThreshold(3, 1), 3);
        // Only rank 2 pays: both relative ranks of 2 are worth 30, as much as the last candidate is.
        x = Checks.planner("n3;p0 90 0;");
        c.due("choosesRank(2, 1, 1)", x.choosesRank(2, 1, 1), 1);
        c.due("rankThreshold(2, 1)", x.rankThreshold(2, 1), 2);
        x = Checks.planner("n3;p0 0 90;");
        c.due("choosesRank(2, 1, 1)", x.choosesRank(2, 1, 1), 0);
        c.due("choosesRank(2, 1, 2)", x.choosesRank(2, 1, 2), 1);
        c.due("rankThreshold(2, 1)", x.rankThreshold(2, 1), 0);
        c.due("rankThreshold(0, 1)", x.rankThreshold(0, 1), BAD);
        c.due("rankThreshold(4, 1)", x.rankThreshold(4, 1), BAD);
        c.due("rankThreshold(1, 0)", x.rankThreshold(1, 0), BAD);
        c.due("rankThreshold(1, 2)", x.rankThreshold(1, 2), BAD);
        for (int odd : ODD) {
            c.due("rankThreshold(" + odd + ", 1)", x.rankThreshold(odd, 1), BAD);
            c.due("rankThreshold(1, " + odd + ")", x.rankThreshold(1, odd), BAD);
        }
    }

    private static void rankExpectation() {
        c.promise(16);
        StoppingPlanner x = Checks.planner("n3;p99;");
        c.fraction("rankExpectation(0)", x, x.rankExpectation(0), 5, 2);
        c.fraction("rankExpectation(1)", x, x.rankExpectation(1), 1, 1);
        c.fraction("rankExpectation(2)", x, x.rankExpectation(2), 1, 1);
        x.setCount(1, 3);
        c.fraction("rankExpectation(0)", x, x.rankExpectation(0), 3, 1);
        c.fraction("rankExpectation(1)", x, x.rankExpectation(1), 3, 1);
        c.fraction("rankExpectation(2)", x, x.rankExpectation(2), 1, 1);
        x.setCount(0, 2);
        c.fraction("rankExpectation(1)", x, x.rankExpectation(1), 2, 1);
        c.fraction("rankExpectation(2)", x, x.rankExpectation(2), 0, 1);
        x = Checks.planner("p0;");
        for (int what = 0; what <= 2; what++) {
            c.fraction("rankExpectation(" + what + ") without payoffs", x, x.rankExpectation(what), 0, 1);
        }
        x = Checks.planner("n2;k2;p50 10;c20;");
        // candidate 1 is worth 30, and one observes candidate 2 for 30 more than its cost
        c.fraction("rankExpectation(0)", x, x.rankExpectation(0), 2, 1);
        c.fraction("rankExpectation(2)", x, x.rankExpectation(2), 1, 1);
        c.due("rankExpectation(-1)", x.rankExpectation(-1), BAD_FRACTION);
        c.due("rankExpectation(3)", x.rankExpectation(3), BAD_FRACTION);
        for (int odd : ODD) {
            c.due("rankExpectation(" + odd + ")", x.rankExpectation(odd), BAD_FRACTION);
        }
    }

    private static void skipping() {
        c.promise(17);
        StoppingPlanner x = Checks.planner("n3;p90 30 6;");
        c.fraction("skipping(0)", x, x.skipping(0), 42, 1);
        // 1/2: 70 at once; else 1/3: 90 then
        c.fraction("skipping(1)", x, x.skipping(1), 50, 1);
        c.fraction("skipping(2)", x, x.skipping(2), 30, 1);
        c.fraction("skipping(3)", x, x.skipping(3), 0, 1);
        x.setCount(2, 20);
        c.fraction("skipping(0)", x, x.skipping(0), 22, 1);
        c.fraction("skipping(1)", x, x.skipping(1), 0, 1);
        c.fraction("skipping(2)", x, x.skipping(2), -30, 1);
        c.fraction("skipping(3)", x, x.skipping(3), -60, 1);
        x = Checks.planner("n3;k2;p90 30 6;");
        c.fraction("skipping(0)", x, x.skipping(0), 42 + 35 + 15, 1);
        x.setCount(0, 7);
        x.setCount(2, 7);
        c.fraction("skipping(7)", x, x.skipping(7), -49, 1);
        c.due("skipping(-1)", x.skipping(-1), BAD_FRACTION);
        c.due("skipping(8)", x.skipping(8), BAD_FRACTION);
        c.due("denominator()", x.denominator(), 1);
        x.setCount(0, 2);
        c.due("skipping(3)", x.skipping(3), BAD_FRACTION);
        for (int odd : ODD) {
            c.due("skipping(" + odd + ")", x.skipping(odd), BAD_FRACTION);
        }
    }

    private static void bestSkip() {
        c.promise(18);
        c.due("bestSkip()", Checks.planner("n3;p90 30 6;").bestSkip(), 1);
        c.due("bestSkip()", Checks.planner("n3;p90 30 6;c20;").bestSkip(), 0);
        c.due("bestSkip() of equal ones", Checks.planner("n2;p99 0;").bestSkip(), 0);
        c.due("bestSkip() without payoffs", Checks.planner("p0;").bestSkip(), 0);
        c.due("bestSkip()", Checks.planner("n3;p0 50 0;").bestSkip(), 0);
        c.due("bestSkip()", Checks.planner("n7;p99;").bestSkip(), 2);
        StoppingPlanner x = Checks.planner("n7;p99;");
        x.worth(3, 1);
        long denominator = x.denominator();
        x.bestSkip();
        c.due("denominator() after bestSkip()", x.denominator(), denominator);
    }

    /** Follows the policy and the skipping rules through all orders of the candidates. */
    private static void everyOrder() {
        String[] texts = {
            "n1;k1;p7;c3;", "n4;k2;p50 40 3 1;c4;", "n5;k3;p9 8 7 6 5;c6;", "n6;k1;p99 50;c12;",
            "n6;k2;p0 0 99;c2;", "n5;k2;p3 0 99 0 60;c19;", "n6;k3;p99 1 98 2 97 3;", "n4;k3;p0;"};
        for (String text : texts) {
            StoppingPlanner x = Checks.planner(text);
            Orders orders = new Orders(x);
            int n = x.parameter(0);
            int k = x.parameter(1);
            c.promise(13);
            c.due("value of " + text, orders.isMean(orders.payoff, x.rankValue(1, k), x.denominator()), true);
            c.promise(16);
            long[] sums = {orders.observed, orders.chosen, orders.used};
            for (int what = 0; what <= 2; what++) {
                boolean isMean = orders.isMean(sums[what], x.rankExpectation(what), x.denominator());
                c.due("rankExpectation(" + what + ") of " + text, isMean, true);
            }
            c.promise(17);
            for (int s = 0; s <= n; s++) {
                boolean isMean = orders.isMean(orders.skipped[s], x.skipping(s), x.denominator());
                c.due("skipping(" + s + ") of " + text, isMean, true);
            }
        }
    }

    /** Sums over all orders. */
    private static final class Orders {
        private final StoppingPlanner x;
        private final int n;
        private long count;
        private long payoff;
        private long observed;
        private long chosen;
        private long used;
        private final long[] skipped = new long[8];

        Orders(StoppingPlanner x) {
            this.x = x;
            n = x.parameter(0);
            permute(new int[n], 0, new boolean[n + 1]);
        }

        boolean isMean(long sum, long numerator, long denominator) {
            return sum * denominator == numerator * count;
        }

        private void permute(int[] order, int at, boolean[] taken) {
            if (at == n) {
                count++;
                followPolicy(order);
                for (int s = 0; s <= n; s++) {
                    followSkipping(order, s);
                }
                return;
            }
            for (int rank = 1; rank <= n; rank++) {
                if (!taken[rank]) {
                    taken[rank] = true;
                    order[at] = rank;
                    permute(order, at + 1, taken);
                    taken[rank] = false;
                }
            }
        }

        private static int relative(int[] order, int i) {
            int rank = 1;
            for (int earlier = 0; earlier < i - 1; earlier++) {
                if (order[earlier] < order[i - 1]) {
                    rank++;
                }
            }
            return rank;
        }

        private void followPolicy(int[] order) {
            int left = x.parameter(1);
            for (int i = 1; i <= n && left > 0 && x.rankValue(i, left) > 0; i++) {
                observed++;
                payoff -= x.parameter(2);
                if (x.choosesRank(i, left, relative(order, i)) == 1) {
                    chosen++;
                    left--;
                    payoff += x.parameter(2 + order[i - 1]);
                }
            }
            used += left == 0 ? 1 : 0;
        }

        private void followSkipping(int[] order, int s) {
            int left = x.parameter(1);
            for (int i = 1; i <= n && left > 0; i++) {
                skipped[s] -= x.parameter(2);
                if (i > s && relative(order, i) == 1) {
                    left--;
                    skipped[s] += x.parameter(2 + order[i - 1]);
                }
            }
        }
    }
}
