/** The boundaries that the document names for parameters, counts and a new object: a test for each sentence. */
public final class ParameterEdgesTest {
    private static final int BAD = StoppingPlanner.BAD;
    private static final int STATE = StoppingPlanner.STATE;
    private static final int[] INITIAL = {
        5, 1, 0, 99, 0, 0, 0, 0, 0, 0, 0, 10, 20, 30, 40, 2, 2, 2, 2, 2, 0, 0};
    private static final Checks c = new Checks("ParameterEdgesTest");

    public static void main(String[] args) {
        candidatesAndChoices();
        cost();
        payoffs();
        levelsAndWeights();
        recallChances();
        newObject();
        setCountWhat();
        setCountRefuses();
        setPayoffRanges();
        setPayoffRefuses();
        setLevelRanges();
        setLevelRefuses();
        setRecallRanges();
        setRecallRefuses();
        shiftWeightLevels();
        shiftWeightAmount();
        shiftWeightRefuses();
        parameterNumbers();
        parameterRefuses();
        countNumbers();
        countOfQuits();
        countRefuses();
        c.end();
    }

    // ---- the description

    private static void candidatesAndChoices() {
        c.sentence(0, "There are n candidates (1 to 7, initially 5), of which at most k can be chosen (1 to 3,"
            + " initially 1).");
        StoppingPlanner x = new StoppingPlanner();
        c.due("parameter(0)", x.parameter(0), 5);
        c.due("parameter(1)", x.parameter(1), 1);
        c.range("setCount(0, v)", 1, 7, BAD, v -> x.setCount(0, v));
        c.range("setCount(1, v)", 1, 3, BAD, v -> x.setCount(1, v));
        for (int v = 0; v <= 8; v++) {
            c.due("load() of n" + v, Checks.answerToText(x, "n" + v + ";"), v < 1 || v > 7 ? -11 : 1);
            c.due("load() of k" + v, Checks.answerToText(x, "k" + v + ";"), v < 1 || v > 3 ? -11 : 1);
        }
        for (int n = 1; n <= 7; n++) {
            for (int k = 1; k <= 3; k++) {
                atMostAreChosen("n" + n + ";k" + k + ";p9 9 9 9 9 9 9;v9 9 9 9 9;", Math.min(n, k));
            }
        }
    }

    /** Everybody is worth 9, so that as many as possible are chosen. */
    private static void atMostAreChosen(String text, int chosen) {
        StoppingPlanner x = Checks.planner(text);
        c.fraction("V(1, k), " + text, x, x.rankValue(1, x.parameter(1)), 9 * chosen, 1);
        c.fraction("S(1, k, 5, 5), " + text, x, x.situation(1, x.parameter(1), 5, 5), 9 * chosen, 1);
        c.due("choices among ranks, " + text, Integer.bitCount(x.simulateRanks(3, 2)), chosen);
        c.due("choices among values, " + text, Integer.bitCount(x.simulateValues(3, 2)), chosen);
    }

    private static void cost() {
        c.sentence(0, "Each observation costs c (0 to 20, initially 0).");
        StoppingPlanner x = new StoppingPlanner();
        c.due("parameter(2)", x.parameter(2), 0);
        c.range("setCount(2, v)", 0, 20, BAD, v -> x.setCount(2, v));
        c.due("load() of c21", Checks.answerToText(x, "c21;"), -11);
        for (int cost = 0; cost <= 20; cost++) {
            c.due("load() of c" + cost, Checks.answerToText(x, "c" + cost + ";"), 1);
            // Nobody is chosen, and all five are observed.
            c.fraction("skipping(5) with cost " + cost, x, x.skipping(5), -5 * cost, 1);
            c.fraction("fixed(41) with cost " + cost, x, x.fixed(41), -5 * cost, 1);
        }
    }

    private static void payoffs() {
        c.sentence(0, "There are payoffs for the ranks 1 to 7 (0 to 99 each, initially 99 for rank 1 and 0 for the"
            + " others).");
        StoppingPlanner x = new StoppingPlanner();
        for (int rank = 1; rank <= 7; rank++) {
            c.due("parameter(" + (2 + rank) + ")", x.parameter(2 + rank), rank == 1 ? 99 : 0);
        }
        x.setCount(0, 7);
        for (int rank = 1; rank <= 7; rank++) {
            int which = rank;
            c.range("setPayoff(" + rank + ", v)", 0, 99, BAD, v -> x.setPayoff(which, v));
            c.fraction("worth(7, " + rank + ")", x, x.worth(7, rank), 99, 1);
            x.setPayoff(rank, 0);
            c.fraction("worth(7, " + rank + ")", x, x.worth(7, rank), 0, 1);
            x.setPayoff(rank, rank);
        }
        c.range("setPayoff(rank, 7)", 1, 7, BAD, rank -> x.setPayoff(rank, 7));
    }

    private static void levelsAndWeights() {
        c.sentence(0, "There is a distribution of values: five levels, 0 to 4, each with a value (0 to 99) and a"
            + " weight (0 to 10); the sum of the weights is 10. Initially the values are 0, 10, 20, 30, 40, and all"
            + " weights are 2.");
        for (int level = 0; level <= 4; level++) {
            c.due("parameter(" + (10 + level) + ")", new StoppingPlanner().parameter(10 + level), 10 * level);
            c.due("parameter(" + (15 + level) + ")", new StoppingPlanner().parameter(15 + level), 2);
        }
        for (int level = 0; level <= 4; level++) {
            StoppingPlanner x = new StoppingPlanner();
            int which = level;
            c.range("setLevel(" + level + ", v)", 0, 99, BAD, v -> x.setLevel(which, v));
            c.due("sum", sumOfWeights(x), 10);
            for (int from = 0; from <= 4; from++) {
                if (from != level) {
                    x.shiftWeight(from, level, 2);
                    c.due("parameter(" + (15 + from) + ")", x.parameter(15 + from), 0);
                    c.due("shiftWeight of what is not there", x.shiftWeight(from, level, 1), BAD);
                    c.due("sum", sumOfWeights(x), 10);
                }
            }
            c.due("parameter(" + (15 + level) + ")", x.parameter(15 + level), 10);
            // Whoever comes has this level.
            c.fraction("S(5, 1, 5, 5)", x, x.situation(5, 1, 5, 5), 99, 1);
            x.setLevel(level, 0);
            c.fraction("S(5, 1, 5, 5)", x, x.situation(5, 1, 5, 5), 0, 1);
            c.due("shiftWeight of all", x.shiftWeight(level, (level + 1) % 5, 10), 10);
            c.due("sum", sumOfWeights(x), 10);
        }
        StoppingPlanner x = new StoppingPlanner();
        c.range("setLevel(level, 7)", 0, 4, BAD, level -> x.setLevel(level, 7));
        c.due("load() of a sum of 9", Checks.answerToText(x, "w2 2 2 2 1;"), -20);
        c.due("load() of a sum of 11", Checks.answerToText(x, "w2 2 2 2 3;"), -20);
        c.due("load() of a sum of 10", Checks.answerToText(x, "w0 0 10 0 0;"), 1);
        c.due("load() of a weight of 11", Checks.answerToText(x, "w0 0 11 0 0;"), -15);
        c.due("sum", sumOfWeights(x), 10);
    }

    private static int sumOfWeights(StoppingPlanner x) {
        int sum = 0;
        for (int level = 0; level <= 4; level++) {
            sum += x.parameter(15 + level);
        }
        return sum;
    }

    private static void recallChances() {
        c.sentence(0, "There are the recall chances for the ages 1 and 2, 0 to 10 tenths each (initially 0).");
        StoppingPlanner x = new StoppingPlanner();
        c.due("parameter(20)", x.parameter(20), 0);
        c.due("parameter(21)", x.parameter(21), 0);
        c.range("setRecall(1, v)", 0, 10, BAD, v -> x.setRecall(1, v));
        c.range("setRecall(2, v)", 0, 10, BAD, v -> x.setRecall(2, v));
        for (int tenths = 0; tenths <= 10; tenths++) {
            x.setRecall(1, tenths);
            x.setRecall(2, 10 - tenths);
            // 40 is remembered behind the last candidate, with the one age or the other one.
            c.fraction("S(6, 1, 4, 5)", x, x.situation(6, 1, 4, 5), 4 * tenths, 1);
            c.fraction("S(6, 1, 5, 4)", x, x.situation(6, 1, 5, 4), 40 - 4 * tenths, 1);
        }
        c.due("load() of r11", Checks.answerToText(x, "r11 0;"), -11);
        c.due("load() of r0 11", Checks.answerToText(x, "r0 11;"), -13);
    }

    // ---- promise 1: a new object

    private static void newObject() {
        c.sentence(1, "Creates a planner with the initial parameters and an empty text buffer; there are no recorded"
            + " states, and denominator() returns 1.");
        StoppingPlanner x = new StoppingPlanner();
        c.due("denominator()", x.denominator(), 1);
        for (int what = 0; what <= 21; what++) {
            c.due("parameter(" + what + ")", x.parameter(what), INITIAL[what]);
        }
        c.due("count(0)", x.count(0), 0);
        c.due("count(1)", x.count(1), 0);
        c.due("undo()", x.undo(), STATE);
        c.due("clearText()", x.clearText(), 0);
        c.due("type(33)", x.type(33), 1);
        x.setCount(0, 7);
        x.rankValue(1, 1);
        c.due("denominator() of another new object", new StoppingPlanner().denominator(), 1);
        c.due("count(0) of another new object", new StoppingPlanner().count(0), 0);
        c.due("count(1) of another new object", new StoppingPlanner().count(1), 0);
        c.due("parameter(0) of another new object", new StoppingPlanner().parameter(0), 5);
    }

    // ---- promises 6 to 10: the setters

    private static void setCountWhat() {
        c.sentence(6, "- `what`: 0 for n, 1 for k, 2 for c - `v`: the new value, in its range");
        StoppingPlanner x = new StoppingPlanner();
        // Each number is in the range of one count, and out of that of another one.
        c.due("setCount(0, 7)", x.setCount(0, 7), 5);
        c.due("setCount(1, 7)", x.setCount(1, 7), BAD);
        c.due("setCount(1, 3)", x.setCount(1, 3), 1);
        c.due("setCount(2, 0)", x.setCount(2, 0), 0);
        c.due("setCount(0, 0)", x.setCount(0, 0), BAD);
        c.due("setCount(1, 0)", x.setCount(1, 0), BAD);
        c.due("setCount(2, 20)", x.setCount(2, 20), 0);
        c.due("setCount(0, 20)", x.setCount(0, 20), BAD);
        c.due("setCount(1, 20)", x.setCount(1, 20), BAD);
        c.due("parameter(0)", x.parameter(0), 7);
        c.due("parameter(1)", x.parameter(1), 3);
        c.due("parameter(2)", x.parameter(2), 20);
    }

    private static void setCountRefuses() {
        c.sentence(6, "Returns the value before; BAD if what or v is out of range.");
        StoppingPlanner x = new StoppingPlanner();
        c.range("setCount(what, 1)", 0, 2, BAD, what -> x.setCount(what, 1));
        int[] least = {1, 1, 0};
        int[] most = {7, 3, 20};
        for (int what = 0; what <= 2; what++) {
            int which = what;
            int before = x.parameter(what);
            c.due("least", x.setCount(what, least[what]), before);
            c.due("most", x.setCount(what, most[what]), least[what]);
            c.due("the same", x.setCount(what, most[what]), most[what]);
            c.due("too great", x.setCount(what, most[what] + 1), BAD);
            c.due("least", x.setCount(what, least[what]), most[what]);
            c.due("too small", x.setCount(what, least[what] - 1), BAD);
            c.due("the same", x.setCount(what, least[what]), least[what]);
            c.range("setCount(" + what + ", v)", least[what], most[what], BAD, v -> x.setCount(which, v));
        }
    }

    private static void setPayoffRanges() {
        c.sentence(7, "- `rank`: the rank, 1 to 7 - `v`: the new payoff, 0 to 99");
        StoppingPlanner x = new StoppingPlanner();
        c.range("setPayoff(rank, 0)", 1, 7, BAD, rank -> x.setPayoff(rank, 0));
        c.range("setPayoff(1, v)", 0, 99, BAD, v -> x.setPayoff(1, v));
        c.range("setPayoff(7, v)", 0, 99, BAD, v -> x.setPayoff(7, v));
        x.setCount(0, 1);
        c.due("setPayoff(7, 8) with one candidate", x.setPayoff(7, 8), 99);
    }

    private static void setPayoffRefuses() {
        c.sentence(7, "Returns the payoff before; BAD if rank or v is out of range.");
        StoppingPlanner x = new StoppingPlanner();
        c.due("setPayoff(1, 100)", x.setPayoff(1, 100), BAD);
        c.due("setPayoff(1, 0)", x.setPayoff(1, 0), 99);
        c.due("setPayoff(1, -1)", x.setPayoff(1, -1), BAD);
        c.due("setPayoff(1, 99)", x.setPayoff(1, 99), 0);
        c.due("setPayoff(7, 99)", x.setPayoff(7, 99), 0);
        c.due("setPayoff(7, 100)", x.setPayoff(7, 100), BAD);
        c.due("setPayoff(7, 99)", x.setPayoff(7, 99), 99);
        c.due("setPayoff(0, 5)", x.setPayoff(0, 5), BAD);
        c.due("setPayoff(8, 5)", x.setPayoff(8, 5), BAD);
        c.due("setPayoff(8, 100)", x.setPayoff(8, 100), BAD);
        c.due("parameter(9)", x.parameter(9), 99);
        c.due("parameter(2)", x.parameter(2), 0);
        c.due("parameter(10)", x.parameter(10), 0);
    }

    private static void setLevelRanges() {
        c.sentence(8, "- `level`: the level, 0 to 4 - `v`: the new value, 0 to 99");
        StoppingPlanner x = new StoppingPlanner();
        c.range("setLevel(level, 8)", 0, 4, BAD, level -> x.setLevel(level, 8));
        c.range("setLevel(0, v)", 0, 99, BAD, v -> x.setLevel(0, v));
        c.range("setLevel(4, v)", 0, 99, BAD, v -> x.setLevel(4, v));
    }

    private static void setLevelRefuses() {
        c.sentence(8, "Returns the value before; BAD if level or v is out of range.");
        StoppingPlanner x = new StoppingPlanner();
        c.due("setLevel(0, 99)", x.setLevel(0, 99), 0);
        c.due("setLevel(0, 100)", x.setLevel(0, 100), BAD);
        c.due("setLevel(0, 0)", x.setLevel(0, 0), 99);
        c.due("setLevel(0, -1)", x.setLevel(0, -1), BAD);
        c.due("setLevel(4, 99)", x.setLevel(4, 99), 40);
        c.due("setLevel(4, 99)", x.setLevel(4, 99), 99);
        c.due("setLevel(-1, 5)", x.setLevel(-1, 5), BAD);
        c.due("setLevel(5, 5)", x.setLevel(5, 5), BAD);
        c.due("setLevel(5, 100)", x.setLevel(5, 100), BAD);
        c.due("parameter(14)", x.parameter(14), 99);
        c.due("parameter(9)", x.parameter(9), 0);
        c.due("parameter(15)", x.parameter(15), 2);
    }

    private static void setRecallRanges() {
        c.sentence(9, "- `age`: the age, 1 or 2 - `tenths`: the new chance, 0 to 10");
        StoppingPlanner x = new StoppingPlanner();
        c.range("setRecall(age, 3)", 1, 2, BAD, age -> x.setRecall(age, 3));
        c.range("setRecall(1, tenths)", 0, 10, BAD, tenths -> x.setRecall(1, tenths));
        c.range("setRecall(2, tenths)", 0, 10, BAD, tenths -> x.setRecall(2, tenths));
    }

    private static void setRecallRefuses() {
        c.sentence(9, "Returns the chance before; BAD if age or tenths is out of range.");
        StoppingPlanner x = new StoppingPlanner();
        for (int age = 1; age <= 2; age++) {
            c.due("most", x.setRecall(age, 10), 0);
            c.due("too great", x.setRecall(age, 11), BAD);
            c.due("least", x.setRecall(age, 0), 10);
            c.due("too small", x.setRecall(age, -1), BAD);
            c.due("the same", x.setRecall(age, 0), 0);
        }
        c.due("setRecall(0, 5)", x.setRecall(0, 5), BAD);
        c.due("setRecall(3, 5)", x.setRecall(3, 5), BAD);
        c.due("setRecall(3, 11)", x.setRecall(3, 11), BAD);
        c.due("parameter(19)", x.parameter(19), 2);
        c.due("parameter(21)", x.parameter(21), 0);
    }

    private static void shiftWeightLevels() {
        c.sentence(10, "- `from`: the level that loses weight, 0 to 4 - `to`: the level that gets it, 0 to 4");
        StoppingPlanner x = new StoppingPlanner();
        c.range("shiftWeight(from, 1, 0)", 0, 4, BAD, from -> x.shiftWeight(from, 1, 0));
        c.range("shiftWeight(1, to, 0)", 0, 4, BAD, to -> x.shiftWeight(1, to, 0));
        c.due("shiftWeight(0, 4, 1)", x.shiftWeight(0, 4, 1), 3);
        c.due("parameter(15)", x.parameter(15), 1);
        c.due("parameter(19)", x.parameter(19), 3);
        c.due("shiftWeight(4, 0, 3)", x.shiftWeight(4, 0, 3), 4);
        c.due("parameter(15)", x.parameter(15), 4);
        c.due("parameter(19)", x.parameter(19), 0);
    }

    private static void shiftWeightAmount() {
        c.sentence(10, "- `tenths`: how much, 0 to the weight of from");
        StoppingPlanner x = new StoppingPlanner();
        c.due("load()", Checks.answerToText(x, "w0 1 2 3 4;"), 1);
        for (int from = 0; from <= 4; from++) {
            for (int to = 0; to <= 4; to++) {
                int source = from;
                int target = to;
                c.range("shiftWeight(" + from + ", " + to + ", tenths)", 0, from, BAD, tenths -> {
                    int answer = x.shiftWeight(source, target, tenths);
                    if (answer >= 0) {
                        x.undo();
                    }
                    return answer;
                });
            }
        }
        c.due("all of it", x.shiftWeight(4, 0, 4), 4);
        c.due("nothing of nothing", x.shiftWeight(4, 0, 0), 4);
        c.due("something of nothing", x.shiftWeight(4, 0, 1), BAD);
        c.due("parameter(19)", x.parameter(19), 0);
        c.due("all of it to itself", x.shiftWeight(3, 3, 3), 3);
        c.due("parameter(18)", x.parameter(18), 3);
    }

    private static void shiftWeightRefuses() {
        c.sentence(10, "Returns the weight of to then; BAD if an argument is out of range.");
        StoppingPlanner x = new StoppingPlanner();
        int[][] refused = {
            {-1, 0, 0}, {5, 0, 0}, {0, -1, 0}, {0, 5, 0}, {0, 1, -1}, {0, 1, 3}, {-1, 5, 0}, {5, 5, 3}, {5, -1, -1},
            {0, 0, 3}};
        for (int[] r : refused) {
            c.due("shiftWeight(" + r[0] + ", " + r[1] + ", " + r[2] + ")", x.shiftWeight(r[0], r[1], r[2]), BAD);
        }
        c.due("shiftWeight(0, 4, 2)", x.shiftWeight(0, 4, 2), 4);
        c.due("shiftWeight(1, 4, 2)", x.shiftWeight(1, 4, 2), 6);
        c.due("shiftWeight(2, 4, 2)", x.shiftWeight(2, 4, 2), 8);
        c.due("shiftWeight(3, 4, 3)", x.shiftWeight(3, 4, 3), BAD);
        c.due("shiftWeight(3, 4, 2)", x.shiftWeight(3, 4, 2), 10);
        c.due("shiftWeight(4, 0, 11)", x.shiftWeight(4, 0, 11), BAD);
        c.due("shiftWeight(4, 0, 10)", x.shiftWeight(4, 0, 10), 10);
        c.due("parameter(14)", x.parameter(14), 40);
        c.due("parameter(20)", x.parameter(20), 0);
    }

    // ---- promises 11 and 32: parameter and count

    private static void parameterNumbers() {
        c.sentence(11, "- `what`: 0 for n, 1 for k, 2 for c, 3 to 9 for the payoffs of the ranks 1 to 7, 10 to 14 for"
            + " the values of the levels 0 to 4, 15 to 19 for their weights, 20 and 21 for the recall chances of the"
            + " ages 1 and 2");
        StoppingPlanner x = new StoppingPlanner();
        x.setCount(0, 6);
        x.setCount(1, 2);
        x.setCount(2, 19);
        for (int rank = 1; rank <= 7; rank++) {
            x.setPayoff(rank, 20 + rank);
        }
        for (int level = 0; level <= 4; level++) {
            x.setLevel(level, 90 + level);
        }
        x.shiftWeight(0, 4, 2);
        x.shiftWeight(1, 3, 1);
        x.setRecall(1, 8);
        x.setRecall(2, 9);
        int[] want = {6, 2, 19, 21, 22, 23, 24, 25, 26, 27, 90, 91, 92, 93, 94, 0, 1, 2, 3, 4, 8, 9};
        for (int what = 0; what <= 21; what++) {
            c.due("parameter(" + what + ")", x.parameter(what), want[what]);
        }
    }

    private static void parameterRefuses() {
        c.sentence(11, "Returns the parameter; BAD if what is out of range.");
        StoppingPlanner x = new StoppingPlanner();
        c.range("parameter(what)", 0, 21, BAD, x::parameter);
    }

    private static void countNumbers() {
        c.sentence(32, "- `what`: 0 for the characters of the text buffer, 1 for the remembered states, 2 for the"
            + " levels with a weight,");
        StoppingPlanner x = new StoppingPlanner();
        for (int size = 0; size <= 60; size++) {
            c.due("count(0)", x.count(0), size);
            x.type(126);
        }
        c.due("count(0) after a character too many", x.count(0), 60);
        for (int size = 0; size <= 8; size++) {
            c.due("count(1)", x.count(1), size);
            x.setCount(2, size);
        }
        c.due("count(1) after a state too many", x.count(1), 8);
        for (int level = 0; level <= 3; level++) {
            c.due("count(2)", x.count(2), 5 - level);
            x.shiftWeight(level, 4, 1);
            c.due("count(2) with a weight of 1", x.count(2), 5 - level);
            x.shiftWeight(level, 4, 1);
        }
        c.due("count(2) with one weight", x.count(2), 1);
        x.setRecall(1, 10);
        x.setRecall(2, 10);
        c.due("count(2) with one weight and recall chances", x.count(2), 1);
        x.clearText();
        c.due("count(0) of an empty text", x.count(0), 0);
    }

    private static void countOfQuits() {
        c.sentence(32, "3 for the pairs (i, j), i from 1 to n and j from 1 to k, before which the best policy of the"
            + " rank problem quits");
        for (int n = 1; n <= 7; n++) {
            for (int k = 1; k <= 3; k++) {
                StoppingPlanner x = Checks.planner("n" + n + ";k" + k + ";p0;");
                c.due("count(3) without payoffs", x.count(3), n * k);
                // A payoff for the rank n pays before each candidate, if nothing is to be paid for it.
                x.setPayoff(n, 1);
                c.due("count(3) with a payoff", x.count(3), 0);
                // Each observation costs as much as it brings.
                x = Checks.planner("n" + n + ";k" + k + ";c7;p7 7 7 7 7 7 7;");
                c.due("count(3) with a payoff that is the cost", x.count(3), n * k);
                x.setCount(2, 6);
                c.due("count(3) with a payoff above the cost", x.count(3), 0);
            }
        }
        // A candidate is worth 15 on the average, whatever is known of the ones before.
        c.due("count(3)", Checks.planner("n3;k2;c15;p45;").count(3), 6);
        c.due("count(3)", Checks.planner("n3;k2;c14;p45;").count(3), 0);
        c.due("count(3)", Checks.planner("n3;k2;c15;p44;").count(3), 6);
        c.due("count(3)", Checks.planner("n3;k2;c15;p46;").count(3), 0);
    }

    private static void countRefuses() {
        c.sentence(32, "Returns the count; BAD if what is out of range.");
        StoppingPlanner x = new StoppingPlanner();
        c.range("count(what)", 0, 3, BAD, x::count);
    }
}
