/** Optimal stopping with several choices: the rank problem and the value problem, solved exactly. */
public final class StoppingPlanner {
    public static final int BAD = -1, STATE = -2, FULL = -3, NONE = -9;
    public static final long BAD_FRACTION = -4000000000000000000L;

    // The parameters stand in one row, in the order in which parameter() numbers them.
    private static final int COUNT_OF_CANDIDATES = 0, COUNT_OF_CHOICES = 1, COST = 2;
    private static final int PAYOFFS = 3, LEVELS = 10, WEIGHTS = 15, CHANCES = 20, PARAMETERS = 22;
    private static final int[] INITIAL = {
        5, 1, 0, 99, 0, 0, 0, 0, 0, 0, 0, 10, 20, 30, 40, 2, 2, 2, 2, 2, 0, 0};
    private static final int[] LEAST = {
        1, 1, 0, 0, 0, 0, 0, 0, 0, 0, 0, 0, 0, 0, 0, 0, 0, 0, 0, 0, 0, 0};
    private static final int[] MOST = {
        7, 3, 20, 99, 99, 99, 99, 99, 99, 99, 99, 99, 99, 99, 99, 10, 10, 10, 10, 10, 10, 10};

    private static final int RANKS = 7;
    private static final int LEVEL_COUNT = 5;
    /** Stands for no remembered candidate where a level is asked. */
    private static final int NOBODY = 5;
    private static final int MOST_CHOICES = 3;
    /** Candidates 1 to 7, and the place behind the last one. */
    private static final int PLACES = 8;
    private static final int ROW_OF_CHOICES = MOST_CHOICES + 1;
    private static final int TENTHS = 10;
    private static final int MOST_FIXED = 99;

    private final int[] parameters;
    private final Text text;
    private final History history;
    private final RankProblem ranks;
    private final ValueProblem values;
    private final ValueProblem valuesWithoutRecall;
    private final Simulation simulation;
    private int latestFault;
    private long latestDenominator;

    public StoppingPlanner() {
        parameters = new int[PARAMETERS];
        System.arraycopy(INITIAL, 0, parameters, 0, PARAMETERS);
        text = new Text();
        history = new History();
        ranks = new RankProblem();
        values = new ValueProblem(true);
        valuesWithoutRecall = new ValueProblem(false);
        simulation = new Simulation();
        latestDenominator = 1;
    }

    // ---- parameters

    public int type(int code) {
        if (code < 32 || code > 126) {
            return BAD;
        }
        if (text.isFull()) {
            return FULL;
        }
        return text.append(code);
    }

    public int clearText() {
        return text.empty();
    }

    public int load() {
        text.read(parameters);
        latestFault = text.kindOfFault();
        if (latestFault != 0) {
            return -10 - text.positionOfFault();
        }
        beginChange();
        text.giveParameters(parameters);
        return text.countOfItems();
    }

    public int faultKind() {
        return latestFault;
    }

    public int setCount(int what, int v) {
        if (what < 0 || what > 2) {
            return BAD;
        }
        return change(what, v);
    }

    public int setPayoff(int rank, int v) {
        if (rank < 1 || rank > RANKS) {
            return BAD;
        }
        return change(PAYOFFS + rank - 1, v);
    }

    public int setLevel(int level, int v) {
        if (isNoLevel(level)) {
            return BAD;
        }
        return change(LEVELS + level, v);
    }

    public int setRecall(int age, int tenths) {
        if (age < 1 || age > 2) {
            return BAD;
        }
        return change(CHANCES + age - 1, tenths);
    }

    public int shiftWeight(int from, int to, int tenths) {
        if (isNoLevel(from) || isNoLevel(to)) {
            return BAD;
        }
        if (tenths < 0 || tenths > parameters[WEIGHTS + from]) {
            return BAD;
        }
        beginChange();
        parameters[WEIGHTS + from] -= tenths;
        parameters[WEIGHTS + to] += tenths;
        return parameters[WEIGHTS + to];
    }

    public int parameter(int what) {
        if (what < 0 || what >= PARAMETERS) {
            return BAD;
        }
        return parameters[what];
    }

    // ---- the rank problem

    public long worth(int i, int r) {
        if (isNoCandidate(i) || r < 1 || r > i) {
            return BAD_FRACTION;
        }
        ranks.solve(parameters);
        return fraction(ranks.worthOf(i, r), RankProblem.SCALE);
    }

    public long rankValue(int i, int j) {
        if (isNoPlace(i) || isNoNumberLeft(j)) {
            return BAD_FRACTION;
        }
        ranks.solve(parameters);
        return fraction(ranks.valueBefore(i, j), RankProblem.SCALE);
    }

    public int choosesRank(int i, int j, int r) {
        if (isNoCandidate(i) || isNoChoiceLeft(j) || r < 1 || r > i) {
            return BAD;
        }
        ranks.solve(parameters);
        return ranks.takes(i, j, r) ? 1 : 0;
    }

    public int rankThreshold(int i, int j) {
        if (isNoCandidate(i) || isNoChoiceLeft(j)) {
            return BAD;
        }
        ranks.solve(parameters);
        int threshold = 0;
        while (threshold < i && ranks.takes(i, j, threshold + 1)) {
            threshold++;
        }
        return threshold;
    }

    public long rankExpectation(int what) {
        if (what < 0 || what > 2) {
            return BAD_FRACTION;
        }
        ranks.solve(parameters);
        return fraction(ranks.expected(what, choices()), RankProblem.SCALE);
    }

    public long skipping(int s) {
        if (s < 0 || s > candidates()) {
            return BAD_FRACTION;
        }
        ranks.solve(parameters);
        return fraction(ranks.valueOfSkipping(s, choices()), RankProblem.SCALE);
    }

    public int bestSkip() {
        ranks.solve(parameters);
        int best = 0;
        long most = ranks.valueOfSkipping(0, choices());
        for (int s = 1; s <= candidates(); s++) {
            long value = ranks.valueOfSkipping(s, choices());
            if (value > most) {
                most = value;
                best = s;
            }
        }
        return best;
    }

    // ---- the value problem

    public long situation(int i, int j, int a, int b) {
        if (isNoSituation(i, j, a, b)) {
            return BAD_FRACTION;
        }
        values.solve(parameters);
        return fraction(values.valueBefore(i, j, a, b), ValueProblem.SCALE);
    }

    public int recalls(int i, int j, int a, int b) {
        if (isNoSituation(i, j, a, b)) {
            return BAD;
        }
        values.solve(parameters);
        return values.bestRecall(i, j, a, b);
    }

    public int observes(int i, int j, int a, int b) {
        if (isNoSituation(i, j, a, b)) {
            return BAD;
        }
        values.solve(parameters);
        return values.valueAfterRecall(i, j, a) > 0 ? 1 : 0;
    }

    public int choosesLevel(int i, int j, int a, int level) {
        if (isNoCandidate(i) || isNoChoiceLeft(j) || isNoMemory(a) || isNoLevel(level)) {
            return BAD;
        }
        values.solve(parameters);
        return values.takes(i, j, a, level) ? 1 : 0;
    }

    public int valueThreshold(int i, int j, int a) {
        if (isNoCandidate(i) || isNoChoiceLeft(j) || isNoMemory(a)) {
            return BAD;
        }
        values.solve(parameters);
        int threshold = NONE;
        for (int level = 0; level < LEVEL_COUNT; level++) {
            int value = parameters[LEVELS + level];
            if (values.takes(i, j, a, level) && (threshold == NONE || value < threshold)) {
                threshold = value;
            }
        }
        return threshold;
    }

    public long fixed(int h) {
        if (h < 0 || h > MOST_FIXED) {
            return BAD_FRACTION;
        }
        values.solve(parameters);
        return fraction(values.valueOfFixed(h, choices()), ValueProblem.SCALE);
    }

    public int bestFixed() {
        values.solve(parameters);
        int best = 0;
        long most = values.valueOfFixed(0, choices());
        for (int h = 1; h <= MOST_FIXED; h++) {
            // Without a level of value h - 1, h chooses the same candidates as h - 1.
            if (isValueOfLevel(h - 1)) {
                long value = values.valueOfFixed(h, choices());
                if (value > most) {
                    most = value;
                    best = h;
                }
            }
        }
        return best;
    }

    public long recallGain() {
        values.solve(parameters);
        valuesWithoutRecall.solve(parameters);
        long with = values.valueBefore(1, choices(), NOBODY, NOBODY);
        long without = valuesWithoutRecall.valueBefore(1, choices(), NOBODY, NOBODY);
        return fraction(with - without, ValueProblem.SCALE);
    }

    public long price(boolean values) {
        if (choices() >= MOST_CHOICES) {
            return BAD_FRACTION;
        }
        return values ? priceOfValues() : priceOfRanks();
    }

    public long denominator() {
        return latestDenominator;
    }

    // ---- simulations

    public int simulateRanks(int seed, int what) {
        if (what < 0 || what > 2) {
            return BAD;
        }
        ranks.solve(parameters);
        simulation.runRanks(ranks, parameters, seed);
        return simulation.resultOf(what);
    }

    public int simulateValues(int seed, int what) {
        if (what < 0 || what > 4) {
            return BAD;
        }
        values.solve(parameters);
        simulation.runValues(values, parameters, seed);
        return simulation.resultOf(what);
    }

    // ---- history

    public int undo() {
        if (history.size() == 0) {
            return STATE;
        }
        history.restore(parameters);
        forgetSolutions();
        return history.size();
    }

    public int count(int what) {
        switch (what) {
            case 0:
                return text.size();
            case 1:
                return history.size();
            case 2:
                return countWeightedLevels();
            case 3:
                return countQuits();
            default:
                return BAD;
        }
    }

    public long digest() {
        long denominatorBefore = latestDenominator;
        long h = 18474;
        for (int what = 0; what < PARAMETERS; what++) {
            h = mix(h, parameter(what));
        }
        h = mixRankValues(h);
        h = mixRankPolicy(h);
        h = mixSituations(h);
        h = mixValuePolicy(h);
        for (int what = 0; what <= 3; what++) {
            h = mix(h, count(what));
        }
        latestDenominator = denominatorBefore;
        return h;
    }

    // ---- what the methods share

    private int candidates() {
        return parameters[COUNT_OF_CANDIDATES];
    }

    private int choices() {
        return parameters[COUNT_OF_CHOICES];
    }

    private boolean isNoCandidate(int i) {
        return i < 1 || i > candidates();
    }

    private boolean isNoPlace(int i) {
        return i < 1 || i > candidates() + 1;
    }

    private boolean isNoNumberLeft(int j) {
        return j < 0 || j > choices();
    }

    private boolean isNoChoiceLeft(int j) {
        return j < 1 || j > choices();
    }

    private boolean isNoSituation(int i, int j, int a, int b) {
        return isNoPlace(i) || isNoNumberLeft(j) || isNoMemory(a) || isNoMemory(b);
    }

    private static boolean isNoLevel(int level) {
        return level < 0 || level >= LEVEL_COUNT;
    }

    private static boolean isNoMemory(int level) {
        return level < 0 || level > NOBODY;
    }

    private int change(int index, int v) {
        if (v < LEAST[index] || v > MOST[index]) {
            return BAD;
        }
        beginChange();
        int before = parameters[index];
        parameters[index] = v;
        return before;
    }

    private void beginChange() {
        history.record(parameters);
        forgetSolutions();
    }

    private void forgetSolutions() {
        ranks.forget();
        values.forget();
        valuesWithoutRecall.forget();
    }

    private long priceOfValues() {
        values.solve(parameters);
        long more = values.valueBefore(1, choices() + 1, NOBODY, NOBODY);
        return fraction(more - values.valueBefore(1, choices(), NOBODY, NOBODY), ValueProblem.SCALE);
    }

    private long priceOfRanks() {
        ranks.solve(parameters);
        long more = ranks.valueBefore(1, choices() + 1);
        return fraction(more - ranks.valueBefore(1, choices()), RankProblem.SCALE);
    }

    private boolean isValueOfLevel(int value) {
        for (int level = 0; level < LEVEL_COUNT; level++) {
            if (parameters[LEVELS + level] == value) {
                return true;
            }
        }
        return false;
    }

    private int countWeightedLevels() {
        int weighted = 0;
        for (int level = 0; level < LEVEL_COUNT; level++) {
            if (parameters[WEIGHTS + level] > 0) {
                weighted++;
            }
        }
        return weighted;
    }

    private int countQuits() {
        ranks.solve(parameters);
        int quits = 0;
        for (int i = 1; i <= candidates(); i++) {
            for (int j = 1; j <= choices(); j++) {
                if (ranks.valueBefore(i, j) == 0) {
                    quits++;
                }
            }
        }
        return quits;
    }

    /** Answers with numerator / scale in lowest terms; scale is positive. */
    private long fraction(long numerator, long scale) {
        long divisor = commonDivisor(Math.abs(numerator), scale);
        latestDenominator = scale / divisor;
        return numerator / divisor;
    }

    private static long commonDivisor(long x, long y) {
        long greater = x;
        long smaller = y;
        // Euclid needs less than a hundred steps for any two longs.
        for (int step = 0; step < 200 && smaller != 0; step++) {
            long rest = greater % smaller;
            greater = smaller;
            smaller = rest;
        }
        return Math.max(1, greater);
    }

    private static long mix(long h, long v) {
        return 31 * h + v;
    }

    private long mixFraction(long h, long numerator) {
        return mix(mix(h, numerator), latestDenominator);
    }

    private long mixRankValues(long h) {
        long mixed = h;
        for (int j = 0; j <= choices(); j++) {
            mixed = mixFraction(mixed, rankValue(1, j));
        }
        return mixed;
    }

    private long mixRankPolicy(long h) {
        long mixed = h;
        for (int i = 1; i <= candidates(); i++) {
            for (int j = 1; j <= choices(); j++) {
                mixed = mix(mixed, rankThreshold(i, j));
            }
        }
        for (int what = 0; what <= 2; what++) {
            mixed = mixFraction(mixed, rankExpectation(what));
        }
        return mix(mixed, bestSkip());
    }

    private long mixSituations(long h) {
        long mixed = h;
        for (int j = 0; j <= choices(); j++) {
            mixed = mixFraction(mixed, situation(1, j, NOBODY, NOBODY));
        }
        return mixed;
    }

    private long mixValuePolicy(long h) {
        long mixed = h;
        for (int i = 1; i <= candidates(); i++) {
            mixed = mix(mixed, recalls(i, choices(), 0, 4));
            mixed = mix(mixed, valueThreshold(i, choices(), NOBODY));
        }
        mixed = mix(mixed, bestFixed());
        return mixFraction(mixed, recallGain());
    }

    /** The rank problem; what it answers are numerators over SCALE. */
    private static final class RankProblem {
        /**
         * 7! times 420: every C(n, i) divides 420, and the means over 1 to i relative ranks
         * divide by factors of n! alone, so that every division below is exact.
         */
        static final long SCALE = 5040L * 420L;
        private static final int OBSERVATIONS = 0, CHOICES = 1;
        private static final int BINOMIAL_ROW = 8;
        private static final int[] BINOMIALS = {
            1, 0, 0, 0, 0, 0, 0, 0,
            1, 1, 0, 0, 0, 0, 0, 0,
            1, 2, 1, 0, 0, 0, 0, 0,
            1, 3, 3, 1, 0, 0, 0, 0,
            1, 4, 6, 4, 1, 0, 0, 0,
            1, 5, 10, 10, 5, 1, 0, 0,
            1, 6, 15, 20, 15, 6, 1, 0,
            1, 7, 21, 35, 35, 21, 7, 1};

        private final long[] worths;
        private final long[] befores;
        /** What a rule or a policy is worth in each situation; made anew for each question. */
        private final long[] followed;
        private boolean solved;
        private int n;
        private long cost;

        RankProblem() {
            worths = new long[RANKS * RANKS];
            befores = new long[PLACES * ROW_OF_CHOICES];
            followed = new long[PLACES * ROW_OF_CHOICES];
        }

        long worthOf(int i, int r) {
            return worths[(i - 1) * RANKS + r - 1];
        }

        long valueBefore(int i, int j) {
            return befores[place(i, j)];
        }

        boolean takes(int i, int j, int r) {
            return worthOf(i, r) + befores[place(i + 1, j - 1)] >= befores[place(i + 1, j)];
        }

        /** The solution does not hold for the parameters any more. */
        void forget() {
            solved = false;
        }

        void solve(int[] parameters) {
            if (solved) {
                return;
            }
            solved = true;
            n = parameters[COUNT_OF_CANDIDATES];
            cost = parameters[COST] * SCALE;
            for (int i = 1; i <= n; i++) {
                for (int r = 1; r <= i; r++) {
                    worths[(i - 1) * RANKS + r - 1] = computeWorth(parameters, i, r);
                }
            }
            clearEnds(befores);
            for (int i = n; i >= 1; i--) {
                for (int j = 1; j <= MOST_CHOICES; j++) {
                    befores[place(i, j)] = Math.max(0, meanOfBest(i, j) - cost);
                }
            }
        }

        /** An expectation under the best policy: observations, choices, or that all choices are used. */
        long expected(int what, int k) {
            boolean ofObservations = what == OBSERVATIONS;
            boolean ofChoices = what == CHOICES;
            clearEnds(followed);
            if (!ofObservations && !ofChoices) {
                for (int i = 1; i <= n + 1; i++) {
                    followed[place(i, 0)] = SCALE;
                }
            }
            for (int i = n; i >= 1; i--) {
                for (int j = 1; j <= k; j++) {
                    long value = 0;
                    if (valueBefore(i, j) != 0) {
                        value = meanFollowed(i, j, ofChoices) + (ofObservations ? SCALE : 0);
                    }
                    followed[place(i, j)] = value;
                }
            }
            return followed[place(1, k)];
        }

        long valueOfSkipping(int s, int k) {
            clearEnds(followed);
            for (int i = n; i >= 1; i--) {
                for (int j = 1; j <= k; j++) {
                    long passed = followed[place(i + 1, j)];
                    long value = passed;
                    if (i > s) {
                        long chosen = worthOf(i, 1) + followed[place(i + 1, j - 1)];
                        value = (chosen + (i - 1) * passed) / i;
                    }
                    followed[place(i, j)] = value - cost;
                }
            }
            return followed[place(1, k)];
        }

        private static int place(int i, int j) {
            return (i - 1) * ROW_OF_CHOICES + j;
        }

        private static int binomial(int above, int below) {
            return BINOMIALS[above * BINOMIAL_ROW + below];
        }

        /** Sets the situations without a choice or a candidate to 0. */
        private void clearEnds(long[] row) {
            for (int i = 1; i <= n; i++) {
                row[place(i, 0)] = 0;
            }
            for (int j = 0; j <= MOST_CHOICES; j++) {
                row[place(n + 1, j)] = 0;
            }
        }

        private long computeWorth(int[] parameters, int i, int r) {
            long sum = 0;
            for (int rank = r; rank <= n - i + r; rank++) {
                long orders = (long) binomial(rank - 1, r - 1) * binomial(n - rank, i - r);
                sum += parameters[PAYOFFS + rank - 1] * orders;
            }
            long all = binomial(n, i);
            return all > 0 ? sum * (SCALE / all) : 0;
        }

        private long meanOfBest(int i, int j) {
            long passed = befores[place(i + 1, j)];
            long rest = befores[place(i + 1, j - 1)];
            long sum = 0;
            for (int r = 1; r <= i; r++) {
                sum += Math.max(passed, worthOf(i, r) + rest);
            }
            return sum / i;
        }

        private long meanFollowed(int i, int j, boolean ofChoices) {
            long sum = 0;
            for (int r = 1; r <= i; r++) {
                if (takes(i, j, r)) {
                    sum += followed[place(i + 1, j - 1)] + (ofChoices ? SCALE : 0);
                } else {
                    sum += followed[place(i + 1, j)];
                }
            }
            return sum / i;
        }
    }

    /** The value problem; what it answers are numerators over SCALE. */
    private static final class ValueProblem {
        /**
         * Each of at most 7 observations and 8 recalls divides by 10, so that every division
         * below is exact; 3 choices of 99 each, times 10, still fit into a long.
         */
        static final long SCALE = 1000000000000000L;
        private static final int MEMORIES = NOBODY + 1;

        private final boolean withRecall;
        /** S(i, j, a, b). */
        private final long[] befores;
        /** Q(i, j, a, b), which does not depend on b: who has age 2 is forgotten when one observes. */
        private final long[] afters;
        /** What the fixed rule is worth in each situation; made anew for each question. */
        private final long[] followed;
        /** The values of the levels, over SCALE. */
        private final long[] levels;
        private final int[] weights;
        private boolean solved;
        private int n;
        private long cost;
        private int chanceOfAge1;
        private int chanceOfAge2;

        /** Without recall, both recall chances count as 0. */
        ValueProblem(boolean recall) {
            withRecall = recall;
            befores = new long[PLACES * ROW_OF_CHOICES * MEMORIES * MEMORIES];
            afters = new long[PLACES * ROW_OF_CHOICES * MEMORIES];
            followed = new long[PLACES * ROW_OF_CHOICES];
            levels = new long[LEVEL_COUNT];
            weights = new int[LEVEL_COUNT];
        }

        long valueBefore(int i, int j, int a, int b) {
            return befores[placeBefore(i, j, a, b)];
        }

        long valueAfterRecall(int i, int j, int a) {
            return afters[placeAfter(i, j, a)];
        }

        boolean takes(int i, int j, int a, int level) {
            long chosen = levels[level] + befores[placeBefore(i + 1, j - 1, NOBODY, a)];
            return chosen >= befores[placeBefore(i + 1, j, level, a)];
        }

        /** The age of the candidate that is best recalled, 0 for none. */
        int bestRecall(int i, int j, int a, int b) {
            if (j == 0) {
                return 0;
            }
            int best = 0;
            long most = valueAfterRecall(i, j, a);
            if (a != NOBODY && recallOfAge1(i, j, a) > most) {
                best = 1;
                most = recallOfAge1(i, j, a);
            }
            if (b != NOBODY && recallOfAge2(i, j, a, b) > most) {
                best = 2;
            }
            return best;
        }

        /** The solution does not hold for the parameters any more. */
        void forget() {
            solved = false;
        }

        void solve(int[] parameters) {
            if (solved) {
                return;
            }
            solved = true;
            readParameters(parameters);
            for (int i = n + 1; i >= 1; i--) {
                for (int j = 0; j <= MOST_CHOICES; j++) {
                    solveAfters(i, j);
                    solveBefores(i, j);
                }
            }
        }

        long valueOfFixed(int h, int k) {
            // The places without a choice left stay 0; behind the last candidate, another n can have left its values.
            for (int j = 1; j <= k; j++) {
                followed[place(n + 1, j)] = 0;
            }
            for (int i = n; i >= 1; i--) {
                for (int j = 1; j <= k; j++) {
                    followed[place(i, j)] = meanOfFixed(h, i, j) - cost;
                }
            }
            return followed[place(1, k)];
        }

        private static int place(int i, int j) {
            return (i - 1) * ROW_OF_CHOICES + j;
        }

        private static int placeAfter(int i, int j, int a) {
            return ((i - 1) * ROW_OF_CHOICES + j) * MEMORIES + a;
        }

        private static int placeBefore(int i, int j, int a, int b) {
            return (((i - 1) * ROW_OF_CHOICES + j) * MEMORIES + a) * MEMORIES + b;
        }

        private void readParameters(int[] parameters) {
            n = parameters[COUNT_OF_CANDIDATES];
            cost = parameters[COST] * SCALE;
            chanceOfAge1 = withRecall ? parameters[CHANCES] : 0;
            chanceOfAge2 = withRecall ? parameters[CHANCES + 1] : 0;
            for (int level = 0; level < LEVEL_COUNT; level++) {
                levels[level] = parameters[LEVELS + level] * SCALE;
                weights[level] = parameters[WEIGHTS + level];
            }
        }

        private void solveAfters(int i, int j) {
            for (int a = 0; a < MEMORIES; a++) {
                long value = 0;
                if (j > 0 && i <= n) {
                    value = Math.max(0, meanOfBest(i, j, a) - cost);
                }
                afters[placeAfter(i, j, a)] = value;
            }
        }

        private void solveBefores(int i, int j) {
            for (int a = 0; a < MEMORIES; a++) {
                for (int b = 0; b < MEMORIES; b++) {
                    long best = afters[placeAfter(i, j, a)];
                    if (j > 0 && a != NOBODY) {
                        best = Math.max(best, recallOfAge1(i, j, a));
                    }
                    if (j > 0 && b != NOBODY) {
                        best = Math.max(best, recallOfAge2(i, j, a, b));
                    }
                    befores[placeBefore(i, j, a, b)] = best;
                }
            }
        }

        private long recallOfAge1(int i, int j, int a) {
            long chosen = levels[a] + afters[placeAfter(i, j - 1, NOBODY)];
            long missed = afters[placeAfter(i, j, NOBODY)];
            return (chanceOfAge1 * chosen + (TENTHS - chanceOfAge1) * missed) / TENTHS;
        }

        private long recallOfAge2(int i, int j, int a, int b) {
            long chosen = levels[b] + afters[placeAfter(i, j - 1, a)];
            long missed = afters[placeAfter(i, j, a)];
            return (chanceOfAge2 * chosen + (TENTHS - chanceOfAge2) * missed) / TENTHS;
        }

        private long meanOfBest(int i, int j, int a) {
            long sum = 0;
            long rest = befores[placeBefore(i + 1, j - 1, NOBODY, a)];
            for (int level = 0; level < LEVEL_COUNT; level++) {
                long passed = befores[placeBefore(i + 1, j, level, a)];
                sum += weights[level] * Math.max(passed, levels[level] + rest);
            }
            return sum / TENTHS;
        }

        private long meanOfFixed(int h, int i, int j) {
            long passed = followed[place(i + 1, j)];
            long rest = followed[place(i + 1, j - 1)];
            long sum = 0;
            for (int level = 0; level < LEVEL_COUNT; level++) {
                boolean chosen = levels[level] >= h * SCALE;
                sum += weights[level] * (chosen ? levels[level] + rest : passed);
            }
            return sum / TENTHS;
        }
    }

    /** Runs of the best policies with numbers drawn from a seed. */
    private static final class Simulation {
        private static final int PAYOFF = 0, OBSERVATIONS = 1, CHOSEN = 2, TRIED = 3, RECALLED = 4;
        private static final int RESULTS = 5;

        private final int[] results;
        private final int[] relativeRanks;
        private final int[] finalRanks;
        private int z;

        Simulation() {
            results = new int[RESULTS];
            relativeRanks = new int[RANKS + 1];
            finalRanks = new int[RANKS + 1];
        }

        int resultOf(int what) {
            return results[what];
        }

        void runRanks(RankProblem problem, int[] parameters, int seed) {
            begin(seed);
            int n = parameters[COUNT_OF_CANDIDATES];
            drawRanks(n);
            int left = parameters[COUNT_OF_CHOICES];
            for (int i = 1; i <= n && problem.valueBefore(i, left) != 0; i++) {
                results[OBSERVATIONS]++;
                if (problem.takes(i, left, relativeRanks[i])) {
                    results[PAYOFF] += parameters[PAYOFFS + finalRanks[i] - 1];
                    results[CHOSEN] |= 1 << (i - 1);
                    left--;
                }
            }
        }

        void runValues(ValueProblem problem, int[] parameters, int seed) {
            begin(seed);
            int left = parameters[COUNT_OF_CHOICES];
            int a = NOBODY;
            int b = NOBODY;
            for (int i = 1; i <= parameters[COUNT_OF_CANDIDATES] + 1; i++) {
                int age = problem.bestRecall(i, left, a, b);
                if (age != 0) {
                    int level = age == 1 ? a : b;
                    if (recallSucceeds(parameters[CHANCES + age - 1])) {
                        results[PAYOFF] += parameters[LEVELS + level];
                        left--;
                    }
                    a = age == 1 ? NOBODY : a;
                    b = age == 2 ? NOBODY : b;
                }
                if (problem.valueAfterRecall(i, left, a) == 0) {
                    return;
                }
                results[OBSERVATIONS]++;
                int level = drawLevel(parameters);
                boolean chosen = problem.takes(i, left, a, level);
                if (chosen) {
                    results[PAYOFF] += parameters[LEVELS + level];
                    results[CHOSEN] |= 1 << (i - 1);
                    left--;
                }
                b = a;
                a = chosen ? NOBODY : level;
            }
        }

        private void begin(int seed) {
            z = seed;
            for (int what = 0; what < RESULTS; what++) {
                results[what] = 0;
            }
        }

        private int draw() {
            z = z * 1103515245 + 12345;
            return (z >>> 16) & 32767;
        }

        private void drawRanks(int n) {
            for (int i = 1; i <= n; i++) {
                int relative = 1 + draw() % i;
                relativeRanks[i] = relative;
                for (int earlier = 1; earlier < i; earlier++) {
                    if (finalRanks[earlier] >= relative) {
                        finalRanks[earlier]++;
                    }
                }
                finalRanks[i] = relative;
            }
        }

        private boolean recallSucceeds(int tenths) {
            results[TRIED]++;
            if (draw() % TENTHS >= tenths) {
                return false;
            }
            results[RECALLED]++;
            return true;
        }

        private int drawLevel(int[] parameters) {
            int number = draw() % TENTHS;
            int level = 0;
            int sum = parameters[WEIGHTS];
            while (level < LEVEL_COUNT - 1 && number >= sum) {
                level++;
                sum += parameters[WEIGHTS + level];
            }
            return level;
        }
    }

    /** The remembered states, the oldest one first. */
    private static final class History {
        private static final int MOST_STATES = 8;

        private final int[] states;
        private int size;

        History() {
            states = new int[MOST_STATES * PARAMETERS];
        }

        int size() {
            return size;
        }

        void record(int[] parameters) {
            if (size == MOST_STATES) {
                System.arraycopy(states, PARAMETERS, states, 0, (MOST_STATES - 1) * PARAMETERS);
                size--;
            }
            System.arraycopy(parameters, 0, states, size * PARAMETERS, PARAMETERS);
            size++;
        }

        void restore(int[] parameters) {
            if (size > 0) {
                size--;
                System.arraycopy(states, size * PARAMETERS, parameters, 0, PARAMETERS);
            }
        }
    }

    /** The text buffer, and how it is read as items. */
    private static final class Text {
        private static final int MOST_CHARACTERS = 60;
        private static final int WRONG_CHARACTER = 1, WRONG_NUMBER = 2, EARLY_SEMICOLON = 3;
        private static final int MOST_DIGITS = 2;
        /** No item is being read. */
        private static final int BETWEEN = -1;
        private static final char[] LETTERS = {'n', 'k', 'c', 'p', 'v', 'w', 'r'};
        /** For each letter: its first parameter, and how many numbers its item has at least and at most. */
        private static final int[] FIRST = {
            COUNT_OF_CANDIDATES, COUNT_OF_CHOICES, COST, PAYOFFS, LEVELS, WEIGHTS, CHANCES};
        private static final int[] FEWEST_NUMBERS = {1, 1, 1, 1, 5, 5, 2};
        private static final int[] MOST_NUMBERS = {1, 1, 1, 7, 5, 5, 2};

        private final int[] codes;
        /** What the parameters become, if the text has no fault. */
        private final int[] staged;
        private int size;
        private int fault;
        private int faultPosition;
        private int items;
        /** The index of the letter of the item that is being read. */
        private int item;
        private int numbers;
        private int digits;
        private int number;
        private int numberPosition;

        Text() {
            codes = new int[MOST_CHARACTERS];
            staged = new int[PARAMETERS];
            item = BETWEEN;
        }

        int size() {
            return size;
        }

        boolean isFull() {
            return size == MOST_CHARACTERS;
        }

        int append(int code) {
            if (size < MOST_CHARACTERS) {
                codes[size] = code;
                size++;
            }
            return size;
        }

        int empty() {
            int before = size;
            size = 0;
            return before;
        }

        int kindOfFault() {
            return fault;
        }

        int positionOfFault() {
            return faultPosition;
        }

        int countOfItems() {
            return items;
        }

        void giveParameters(int[] parameters) {
            System.arraycopy(staged, 0, parameters, 0, PARAMETERS);
        }

        /** Reads up to the first fault, over the parameters that hold now. */
        void read(int[] parameters) {
            System.arraycopy(parameters, 0, staged, 0, PARAMETERS);
            fault = 0;
            items = 0;
            item = BETWEEN;
            digits = 0;
            for (int position = 0; position < size && fault == 0; position++) {
                readCharacter(codes[position], position);
            }
            if (fault == 0) {
                endNumber();
            }
            if (fault == 0 && item != BETWEEN) {
                setFault(WRONG_CHARACTER, size);
            }
        }

        private void readCharacter(int code, int position) {
            if (code >= '0' && code <= '9') {
                readDigit(code - '0', position);
                return;
            }
            endNumber();
            if (fault != 0 || code == ' ') {
                return;
            }
            if (code == ';') {
                endItem(position);
            } else {
                beginItem(code, position);
            }
        }

        private void readDigit(int digit, int position) {
            if (item == BETWEEN || digits == MOST_DIGITS) {
                setFault(WRONG_CHARACTER, position);
                return;
            }
            if (digits == 0) {
                number = 0;
                numberPosition = position;
            }
            number = number * 10 + digit;
            digits++;
        }

        private void endNumber() {
            if (digits == 0 || item == BETWEEN) {
                return;
            }
            digits = 0;
            int index = FIRST[item] + numbers;
            if (numbers == MOST_NUMBERS[item] || number < LEAST[index] || number > MOST[index]) {
                setFault(WRONG_NUMBER, numberPosition);
                return;
            }
            staged[index] = number;
            numbers++;
        }

        private void beginItem(int code, int position) {
            int letter = indexOfLetter(code);
            if (item != BETWEEN || letter == BETWEEN) {
                setFault(WRONG_CHARACTER, position);
                return;
            }
            item = letter;
            numbers = 0;
        }

        private void endItem(int position) {
            if (item == BETWEEN) {
                setFault(WRONG_CHARACTER, position);
            } else if (numbers < FEWEST_NUMBERS[item] || endsWrongWeights()) {
                setFault(EARLY_SEMICOLON, position);
            } else {
                clearOtherPayoffs();
                items++;
                item = BETWEEN;
            }
        }

        private static int indexOfLetter(int code) {
            for (int letter = 0; letter < LETTERS.length; letter++) {
                if (LETTERS[letter] == code) {
                    return letter;
                }
            }
            return BETWEEN;
        }

        private boolean endsWrongWeights() {
            int sum = 0;
            for (int level = 0; level < LEVEL_COUNT; level++) {
                sum += staged[WEIGHTS + level];
            }
            return FIRST[item] == WEIGHTS && sum != TENTHS;
        }

        private void clearOtherPayoffs() {
            if (FIRST[item] == PAYOFFS) {
                for (int rank = numbers; rank < RANKS; rank++) {
                    staged[PAYOFFS + rank] = 0;
                }
            }
        }

        private void setFault(int kind, int position) {
            fault = kind;
            faultPosition = position;
        }
    }
}
