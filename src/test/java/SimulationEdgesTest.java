import java.math.BigInteger;
import java.util.ArrayList;
import java.util.LinkedHashMap;
import java.util.List;
import java.util.Map;
import java.util.function.ToLongFunction;

/** The boundaries that the document names for simulations, the digest and all calls: a test for each sentence. */
public final class SimulationEdgesTest {
    private static final int BAD = StoppingPlanner.BAD;
    private static final Checks c = new Checks("SimulationEdgesTest");

    public static void main(String[] args) {
        numbersWrapAround();
        relativeRanksAreDrawnFirst();
        ranksAreKnown();
        ranksEndAtTheEnds();
        setOfRanks();
        simulateRanksRefuses();
        levelsByWeight();
        recallByChance();
        numbersWhenTheyAreNeeded();
        recallsAfterTheLastOne();
        setAndRecalls();
        simulateValuesRefuses();
        digestWrapsAround();
        digestOfParameters();
        digestOfCounts();
        digestKeepsTheDenominator();
        fiveHundredAndTwelveCalls();
        c.end();
    }

    /** Seeds at the ends of int, small ones, and others. */
    private static int seed(int number) {
        int[] seeds = {
            0, 1, -1, 2, -2, Integer.MIN_VALUE, Integer.MAX_VALUE, Integer.MIN_VALUE + 1, Integer.MAX_VALUE - 1, 65535,
            65536, -65536};
        return number < seeds.length ? seeds[number] : number * 987654321;
    }

    // ---- promise 29: simulateRanks

    private static void numbersWrapAround() {
        c.sentence(29, "Numbers are drawn as follows: z is the seed at first; to draw a number, z becomes z *"
            + " 1103515245 + 12345 (int arithmetic that overflows), and the number is (z >>> 16) & 32767.");
        // The payoffs depend on the last one of seven numbers, too.
        StoppingPlanner x = Checks.planner("n7;k2;p77 66 55 44 33 22 11;");
        StoppingPlanner one = Checks.planner("n1;w2 2 2 2 2;v1 2 3 4 5;");
        for (int number = 0; number < 300; number++) {
            int seed = seed(number);
            c.due("simulateRanks(" + seed + ", 0)", x.simulateRanks(seed, 0), ranksOf(x, seed)[0]);
            int first = new Numbers(seed).next();
            c.due("simulateValues(" + seed + ", 0)", one.simulateValues(seed, 0), 1 + first % 10 / 2);
        }
    }

    /** What simulateRanks is to answer, following what the planner itself says of the best policy. */
    private static int[] ranksOf(StoppingPlanner x, int seed) {
        Numbers numbers = new Numbers(seed);
        int n = x.parameter(0);
        List<Integer> bestFirst = new ArrayList<>();
        int[] relative = new int[n + 1];
        for (int i = 1; i <= n; i++) {
            relative[i] = 1 + numbers.next() % i;
            bestFirst.add(relative[i] - 1, i);
        }
        int[] due = new int[3];
        int left = x.parameter(1);
        for (int i = 1; i <= n && x.rankValue(i, left) > 0; i++) {
            due[1]++;
            if (x.choosesRank(i, left, relative[i]) == 1) {
                due[0] += x.parameter(3 + bestFirst.indexOf(i));
                due[2] |= 1 << (i - 1);
                left--;
            }
        }
        return due;
    }

    private static void relativeRanksAreDrawnFirst() {
        c.sentence(29, "For i from 1 to n, candidate i gets the relative rank 1 + (a number that is drawn) modulo i"
            + " (the numbers are drawn for all candidates, in this order, before anything else);");
        String[] texts = {
            "n1;p5;", "n2;p9;", "n3;k3;p9 7 3;", "n4;p99;", "n5;k2;p99 50;c3;", "n6;k3;p1 0 0 0 0 99;", "n7;p99;",
            "n7;k3;p70 60 5;c9;"};
        for (String text : texts) {
            StoppingPlanner x = Checks.planner(text);
            for (int number = 0; number < 100; number++) {
                int seed = seed(number);
                int[] due = ranksOf(x, seed);
                for (int what = 0; what <= 2; what++) {
                    c.due("simulateRanks(" + seed + ", " + what + ") of " + text, x.simulateRanks(seed, what),
                        due[what]);
                }
            }
        }
    }

    private static void ranksAreKnown() {
        c.sentence(29, "by this, the ranks of all candidates are known.");
        // The first one is chosen and pays for its rank among all, which those who come later settle.
        StoppingPlanner x = Checks.planner("n3;k1;p30 30 30;");
        c.due("choosesRank(1, 1, 1)", x.choosesRank(1, 1, 1), 1);
        StoppingPlanner two = Checks.planner("n2;k1;p8 5;");
        c.due("choosesRank(1, 1, 1)", two.choosesRank(1, 1, 1), 1);
        int[] counts = new int[9];
        for (int number = 0; number < 100; number++) {
            int seed = seed(number);
            Numbers numbers = new Numbers(seed);
            numbers.next();
            boolean secondIsBetter = numbers.next() % 2 == 0;
            c.due("simulateRanks(" + seed + ", 0)", two.simulateRanks(seed, 0), secondIsBetter ? 5 : 8);
            c.due("simulateRanks(" + seed + ", 0) of equal payoffs", x.simulateRanks(seed, 0), 30);
            counts[two.simulateRanks(seed, 0)]++;
        }
        c.due("both ranks come", counts[5] > 0 && counts[8] > 0, true);
    }

    private static void ranksEndAtTheEnds() {
        c.sentence(29, "Simulates the best policy of the rank problem.");
        for (int n = 1; n <= 7; n++) {
            for (int k = 1; k <= 3; k++) {
                StoppingPlanner x = Checks.planner("n" + n + ";k" + k + ";p9 9 9 9 9 9 9;c9;");
                for (int what = 0; what <= 2; what++) {
                    c.due("simulateRanks(4, " + what + ") of who quits at once", x.simulateRanks(4, what), 0);
                }
                x.setCount(2, 8);
                int all = Math.min(n, k);
                c.due("payoff of all that can be chosen", x.simulateRanks(4, 0), 9 * all);
                c.due("observations", x.simulateRanks(4, 1), all);
                c.due("choices", x.simulateRanks(4, 2), (1 << all) - 1);
            }
        }
    }

    private static void setOfRanks() {
        c.sentence(29, "2 for the set of the chosen candidates (bit i - 1 for candidate i)");
        StoppingPlanner x = Checks.planner("n7;p99;");
        int seen = 0;
        for (int number = 0; number < 300; number++) {
            int seed = seed(number);
            int set = x.simulateRanks(seed, 2);
            c.due("simulateRanks(" + seed + ", 2)", set, ranksOf(x, seed)[2]);
            // One is chosen, after which nobody is observed.
            c.due("simulateRanks(" + seed + ", 1)", 1 << (x.simulateRanks(seed, 1) - 1), set);
            seen |= set;
        }
        // Two are passed always; each of the other ones is chosen sometimes.
        c.due("all that are ever chosen", seen, 0b1111100);
        c.due("the first one", Checks.planner("n1;").simulateRanks(1, 2), 1);
    }

    private static void simulateRanksRefuses() {
        c.sentence(29, "Returns the number; BAD if what is out of range.");
        for (int number = 0; number < 12; number++) {
            int seed = seed(number);
            StoppingPlanner x = new StoppingPlanner();
            c.range("simulateRanks(" + seed + ", what)", 0, 2, BAD, what -> x.simulateRanks(seed, what));
        }
    }

    // ---- promise 30: simulateValues

    private static void levelsByWeight() {
        c.sentence(30, "when a candidate is observed, a number modulo 10 is drawn, and the candidate has the smallest"
            + " level such that this is less than the sum of the weights of the levels up to it;");
        String[] weights = {"2 2 2 2 2", "10 0 0 0 0", "0 0 0 0 10", "0 0 10 0 0", "1 0 8 0 1", "0 5 0 5 0",
            "9 1 0 0 0", "0 0 0 1 9"};
        for (String some : weights) {
            StoppingPlanner x = Checks.planner("n1;v1 2 3 4 5;w" + some + ";");
            int numbersSeen = 0;
            for (int number = 0; number < 100; number++) {
                int seed = seed(number);
                int drawn = new Numbers(seed).next() % 10;
                numbersSeen |= 1 << drawn;
                int level = 0;
                int rest = drawn - x.parameter(15);
                while (rest >= 0) {
                    level++;
                    rest -= x.parameter(15 + level);
                }
                c.due("simulateValues(" + seed + ", 0) of " + some, x.simulateValues(seed, 0), level + 1);
            }
            c.due("each number from 0 to 9 was drawn", numbersSeen, 1023);
        }
    }

    private static void recallByChance() {
        c.sentence(30, "when a recall is tried, a number modulo 10 is drawn, and the candidate is chosen if this is"
            + " less than the recall chance.");
        for (int tenths = 1; tenths <= 10; tenths++) {
            // 0 comes with 3 tenths, 50 with 3, 99 with 4: 50 is passed, and recalled if a 0 follows.
            StoppingPlanner x = Checks.planner("n2;v0 0 0 50 99;w1 1 1 3 4;r0 " + tenths + ";");
            int greatestThatSucceeds = 0;
            int smallestThatFails = 0;
            for (int number = 0; number < 2000; number++) {
                int seed = seed(number);
                Numbers numbers = new Numbers(seed);
                int first = numbers.next() % 10;
                int second = numbers.next() % 10;
                int drawn = numbers.next() % 10;
                if (first >= 3 && first <= 5 && second <= 2) {
                    boolean succeeds = drawn < tenths;
                    c.due("simulateValues(" + seed + ", 0)", x.simulateValues(seed, 0), succeeds ? 50 : 0);
                    c.due("simulateValues(" + seed + ", 1)", x.simulateValues(seed, 1), 2);
                    c.due("simulateValues(" + seed + ", 2)", x.simulateValues(seed, 2), 0);
                    c.due("simulateValues(" + seed + ", 3)", x.simulateValues(seed, 3), 1);
                    c.due("simulateValues(" + seed + ", 4)", x.simulateValues(seed, 4), succeeds ? 1 : 0);
                    greatestThatSucceeds += drawn == tenths - 1 ? 1 : 0;
                    smallestThatFails += drawn == tenths ? 1 : 0;
                }
            }
            c.due("the greatest number that succeeds was drawn, " + tenths, greatestThatSucceeds > 0, true);
            c.due("the smallest number that fails was drawn, " + tenths, smallestThatFails > 0, tenths < 10);
        }
    }

    /** What simulateValues is to answer, following what the planner itself says of the best policy. */
    private static int[] valuesOf(StoppingPlanner x, int seed) {
        Numbers numbers = new Numbers(seed);
        int[] due = new int[5];
        int left = x.parameter(1);
        int a = 5;
        int b = 5;
        for (int i = 1; i <= x.parameter(0) + 1; i++) {
            int age = x.recalls(i, left, a, b);
            if (age > 0) {
                due[3]++;
                if (numbers.next() % 10 < x.parameter(19 + age)) {
                    due[4]++;
                    due[0] += x.parameter(10 + (age == 1 ? a : b));
                    left--;
                }
                a = age == 1 ? 5 : a;
                b = age == 2 ? 5 : b;
            }
            if (x.observes(i, left, a, b) == 0) {
                return due;
            }
            due[1]++;
            int rest = numbers.next() % 10 - x.parameter(15);
            int level = 0;
            while (rest >= 0) {
                level++;
                rest -= x.parameter(15 + level);
            }
            boolean chosen = x.choosesLevel(i, left, a, level) == 1;
            if (chosen) {
                due[0] += x.parameter(10 + level);
                due[2] |= 1 << (i - 1);
                left--;
            }
            b = a;
            a = chosen ? 5 : level;
        }
        return due;
    }

    private static void numbersWhenTheyAreNeeded() {
        c.sentence(30, "Numbers are drawn as for simulateRanks, whenever they are needed:");
        String[] texts = {
            "n1;", "n2;r0 9;", "n4;k2;r0 10;", "n7;k3;v10 20 30 40 60;w1 2 3 2 2;r6 9;c2;",
            "n7;k3;v60 0 20 5 60;w1 6 3 0 0;r10 4;c1;",
            "n5;k3;c20;r10 10;", "n6;k1;r2 7;w4 0 3 0 3;c4;", "n7;k2;v0 0 0 0 0;r5 5;"};
        for (String text : texts) {
            StoppingPlanner x = Checks.planner(text);
            for (int number = 0; number < 200; number++) {
                int seed = seed(number);
                int[] due = valuesOf(x, seed);
                for (int what = 0; what <= 4; what++) {
                    c.due("simulateValues(" + seed + ", " + what + ") of " + text, x.simulateValues(seed, what),
                        due[what]);
                }
            }
        }
    }

    private static void recallsAfterTheLastOne() {
        c.sentence(30, "Simulates the best policy of the value problem.");
        // After a 0 and the last candidate, who has age 2 is recalled for sure.
        StoppingPlanner x = Checks.planner("n2;v0 0 0 50 99;w4 0 0 5 1;r0 10;");
        int recalled = 0;
        int quit = 0;
        for (int number = 0; number < 300; number++) {
            int seed = seed(number);
            Numbers numbers = new Numbers(seed);
            int first = numbers.next() % 10;
            int second = numbers.next() % 10;
            // 0 with 4 tenths, 50 with 5 tenths, 99 with 1 tenth
            int best = Math.max(first < 4 ? 0 : first < 9 ? 50 : 99,
                first == 9 || second < 4 ? 0 : second < 9 ? 50 : 99);
            c.due("simulateValues(" + seed + ", 0): the better one", x.simulateValues(seed, 0), best);
            c.due("simulateValues(" + seed + ", 1)", x.simulateValues(seed, 1), first == 9 ? 1 : 2);
            recalled += x.simulateValues(seed, 4);
            quit += x.simulateValues(seed, 3) == 0 ? 1 : 0;
        }
        c.due("some are recalled, some are not", recalled > 0 && quit > 0, true);
        x.setCount(2, 20);
        x.setLevel(3, 20);
        x.setLevel(4, 0);
        for (int what = 0; what <= 4; what++) {
            c.due("simulateValues(1, " + what + ") of who quits at once", x.simulateValues(1, what), 0);
        }
    }

    private static void setAndRecalls() {
        c.sentence(30, "2 for the set of the candidates that were chosen when they were observed (bit i - 1 for"
            + " candidate i), 3 for the number of recalls that were tried, 4 for the number of recalls by which a"
            + " candidate was chosen");
        for (int n = 1; n <= 7; n++) {
            for (int k = 1; k <= 3; k++) {
                StoppingPlanner x = Checks.planner("n" + n + ";k" + k + ";v9 9 9 9 9;");
                int all = Math.min(n, k);
                c.due("payoff", x.simulateValues(2, 0), 9 * all);
                c.due("observations", x.simulateValues(2, 1), all);
                c.due("set", x.simulateValues(2, 2), (1 << all) - 1);
                c.due("tried", x.simulateValues(2, 3), 0);
                c.due("recalled", x.simulateValues(2, 4), 0);
            }
        }
        StoppingPlanner x = Checks.planner("n7;k3;v1 2 30 40 60;w1 5 2 1 1;r0 7;c1;");
        int seen = 0;
        int mostTried = 0;
        int failed = 0;
        for (int number = 0; number < 2000; number++) {
            int seed = seed(number);
            int tried = x.simulateValues(seed, 3);
            int recalled = x.simulateValues(seed, 4);
            int set = x.simulateValues(seed, 2);
            seen |= set;
            mostTried = Math.max(mostTried, tried);
            failed += tried - recalled;
            c.due("as many as there are choices", Integer.bitCount(set) + recalled <= 3, true);
            c.due("not more are recalled than tried", recalled <= tried, true);
        }
        c.due("each candidate is chosen sometimes", seen, 127);
        c.due("several recalls are tried sometimes", mostTried > 1, true);
        c.due("some recalls fail", failed > 0, true);
    }

    private static void simulateValuesRefuses() {
        c.sentence(30, "Returns the number; BAD if what is out of range.");
        for (int number = 0; number < 12; number++) {
            int seed = seed(number);
            StoppingPlanner x = new StoppingPlanner();
            c.range("simulateValues(" + seed + ", what)", 0, 4, BAD, what -> x.simulateValues(seed, what));
        }
    }

    // ---- promise 33: digest

    /** The values of the digest, in its order. */
    private static List<Long> digested(StoppingPlanner x) {
        List<Long> values = new ArrayList<>();
        int n = x.parameter(0);
        int k = x.parameter(1);
        for (int what = 0; what <= 21; what++) {
            values.add((long) x.parameter(what));
        }
        for (int j = 0; j <= k; j++) {
            values.add(x.rankValue(1, j));
            values.add(x.denominator());
        }
        for (int i = 1; i <= n; i++) {
            for (int j = 1; j <= k; j++) {
                values.add((long) x.rankThreshold(i, j));
            }
        }
        for (int what = 0; what <= 2; what++) {
            values.add(x.rankExpectation(what));
            values.add(x.denominator());
        }
        values.add((long) x.bestSkip());
        for (int j = 0; j <= k; j++) {
            values.add(x.situation(1, j, 5, 5));
            values.add(x.denominator());
        }
        for (int i = 1; i <= n; i++) {
            values.add((long) x.recalls(i, k, 0, 4));
            values.add((long) x.valueThreshold(i, k, 5));
        }
        values.add((long) x.bestFixed());
        values.add(x.recallGain());
        values.add(x.denominator());
        for (int what = 0; what <= 3; what++) {
            values.add((long) x.count(what));
        }
        return values;
    }

    private static BigInteger withoutOverflow(List<Long> values) {
        BigInteger h = BigInteger.valueOf(18474);
        for (long value : values) {
            h = h.multiply(BigInteger.valueOf(31)).add(BigInteger.valueOf(value));
        }
        return h;
    }

    private static void digestWrapsAround() {
        c.sentence(33, "h is 18474 at first; then h becomes 31 * h + v (long arithmetic that overflows) for each of"
            + " these values v, in this order:");
        String[] texts = {
            "p99 70 30 5;c2;v0 12 29 50 99;w1 2 3 3 1;r4 9;", "p0 0 99;v99 50 29 12 0;w1 3 3 2 1;r10 10;",
            "p99;v30 20 10 20 30;w0 5 0 5 0;r9 7;c4;"};
        for (String text : texts) {
            for (int n = 1; n <= 7; n++) {
                for (int k = 1; k <= 3; k++) {
                    StoppingPlanner x = Checks.planner("n" + n + ";k" + k + ";" + text);
                    BigInteger h = withoutOverflow(digested(x));
                    c.due("h is longer than a long", h.bitLength() > 64, true);
                    c.due("digest() with n " + n + ", k " + k + ", " + text, x.digest(), h.longValue());
                }
            }
        }
        c.due("digest() of a new object", new StoppingPlanner().digest(),
            withoutOverflow(digested(new StoppingPlanner())).longValue());
    }

    private static void digestOfParameters() {
        c.sentence(33, "in this order: parameter(0) to parameter(21);");
        for (int what = 0; what <= 21; what++) {
            StoppingPlanner x = Checks.planner("n3;k2;");
            StoppingPlanner y = Checks.planner("n3;k2;");
            change(x, what, 1);
            change(y, what, 2);
            c.due("digest() depends on parameter(" + what + ")", x.digest() == y.digest(), false);
        }
    }

    private static void digestOfCounts() {
        c.sentence(33, "count(0) to count(3).");
        StoppingPlanner x = new StoppingPlanner();
        long before = x.digest();
        for (int size = 1; size <= 60; size++) {
            x.type(32);
        }
        // Three values follow count(0), two follow count(1).
        c.due("digest() with a full text", x.digest(), before + 60 * 31 * 31 * 31);
        x.clearText();
        c.due("digest() with an empty text", x.digest(), before);
        for (int states = 1; states <= 9; states++) {
            x.setCount(0, 5);
            c.due("digest() with " + states + " changes", x.digest(), before + Math.min(8, states) * 31 * 31);
        }
        for (int states = 7; states >= 0; states--) {
            x.undo();
            c.due("digest() with " + states + " states", x.digest(), before + states * 31 * 31);
        }
    }

    private static void change(StoppingPlanner x, int what, int amount) {
        if (what <= 2) {
            x.setCount(what, x.parameter(what) == amount ? 3 : amount);
        } else if (what <= 9) {
            x.setPayoff(what - 2, 40 + amount);
        } else if (what <= 14) {
            x.setLevel(what - 10, 60 + amount);
        } else if (what <= 19) {
            x.shiftWeight(what - 15, (what - 14) % 5, amount);
        } else {
            x.setRecall(what - 19, amount);
        }
    }

    private static void digestKeepsTheDenominator() {
        c.sentence(33, "denominator() returns afterwards what it returned before the call.");
        StoppingPlanner x = Checks.planner("r5 5;");
        x.digest();
        c.due("denominator() of a new object after digest()", x.denominator(), 1);
        x.worth(3, 1);
        x.digest();
        c.due("denominator() after digest()", x.denominator(), 5);
        x.fixed(-1);
        x.digest();
        x.digest();
        c.due("denominator() after digest() twice", x.denominator(), 5);
        x.worth(5, 1);
        x.digest();
        c.due("denominator() of a whole number after digest()", x.denominator(), 1);
    }

    // ---- the number of calls

    private static void fiveHundredAndTwelveCalls() {
        c.sentence(0, "An object is used for at most 512 calls after it has been made; what later calls answer is"
            + " free.");
        Map<String, ToLongFunction<StoppingPlanner>> calls = new LinkedHashMap<>();
        calls.put("digest()", x -> x.digest());
        calls.put("bestFixed()", x -> x.bestFixed());
        calls.put("load()", x -> x.load());
        calls.put("undo()", x -> x.undo());
        calls.put("clearText()", x -> x.clearText());
        calls.put("simulateValues(9, 0)", x -> x.simulateValues(9, 0));
        calls.put("simulateRanks(9, 0)", x -> x.simulateRanks(9, 0));
        calls.put("recallGain()", x -> x.recallGain());
        calls.put("price(true)", x -> x.price(true));
        calls.forEach((name, call) -> {
            StoppingPlanner x = new StoppingPlanner();
            long first = call.applyAsLong(x);
            for (int number = 2; number <= 512; number++) {
                c.due("call " + number + " of " + name, call.applyAsLong(x), first);
            }
        });
        StoppingPlanner x = new StoppingPlanner();
        for (int number = 1; number <= 510; number++) {
            x.setCount(0, 1 + number % 7);
        }
        c.due("call 511, undo()", x.undo(), 7);
        c.due("call 512, parameter(0)", x.parameter(0), 1 + 509 % 7);
        x = new StoppingPlanner();
        for (int number = 1; number <= 511; number++) {
            x.type(33);
        }
        c.due("call 512, clearText()", x.clearText(), 60);
    }
}
