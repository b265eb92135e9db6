import java.math.BigInteger;
import java.util.ArrayDeque;
import java.util.ArrayList;
import java.util.Deque;
import java.util.HashMap;
import java.util.List;
import java.util.Map;

/**
 * A second program for the same document, slow and plain, with which the class is compared:
 * the worths are counted over all orders, and the values are recursions over exact fractions.
 */
final class Model {
    static final int BAD = -1, STATE = -2, FULL = -3, NONE = -9;
    static final long BAD_FRACTION = -4000000000000000000L;
    private static final int[] LOWEST = {1, 1, 0, 0, 0, 0, 0, 0, 0, 0, 0, 0, 0, 0, 0, 0, 0, 0, 0, 0, 0, 0};
    private static final int[] HIGHEST = {
        7, 3, 20, 99, 99, 99, 99, 99, 99, 99, 99, 99, 99, 99, 99, 10, 10, 10, 10, 10, 10, 10};
    /** For n: how many of all orders give candidate i the relative rank r and the rank R. */
    private static final Map<Integer, long[][][]> ORDERS = new HashMap<>();

    /** An exact fraction in lowest terms. */
    record Fraction(BigInteger above, BigInteger below) implements Comparable<Fraction> {
        static final Fraction ZERO = of(0, 1);
        static final Fraction ONE = of(1, 1);

        static Fraction of(long above, long below) {
            return of(BigInteger.valueOf(above), BigInteger.valueOf(below));
        }

        static Fraction of(BigInteger above, BigInteger below) {
            BigInteger common = above.gcd(below);
            return new Fraction(above.divide(common), below.divide(common));
        }

        Fraction plus(Fraction other) {
            return of(above.multiply(other.below).add(other.above.multiply(below)), below.multiply(other.below));
        }

        Fraction minus(Fraction other) {
            return plus(other.times(of(-1, 1)));
        }

        Fraction times(Fraction other) {
            return of(above.multiply(other.above), below.multiply(other.below));
        }

        Fraction or(Fraction other) {
            return compareTo(other) >= 0 ? this : other;
        }

        public int compareTo(Fraction other) {
            return above.multiply(other.below).compareTo(other.above.multiply(below));
        }

        boolean isPositive() {
            return above.signum() > 0;
        }
    }

    private int[] now = {5, 1, 0, 99, 0, 0, 0, 0, 0, 0, 0, 10, 20, 30, 40, 2, 2, 2, 2, 2, 0, 0};
    private final Deque<int[]> before = new ArrayDeque<>();
    private String text = "";
    private int fault;
    private long latest = 1;
    private int p;
    private int q;
    private final Map<Integer, Fraction> known = new HashMap<>();

    private long answer(Fraction fraction) {
        latest = fraction.below().longValueExact();
        return fraction.above().longValueExact();
    }

    private int n() {
        return now[0];
    }

    private int k() {
        return now[1];
    }

    private Fraction cost() {
        return Fraction.of(now[2], 1);
    }

    private static boolean in(int least, int x, int most) {
        return least <= x && x <= most;
    }

    // ---- parameters

    int type(int code) {
        if (!in(32, code, 126)) {
            return BAD;
        }
        if (text.length() == 60) {
            return FULL;
        }
        text += (char) code;
        return text.length();
    }

    int clearText() {
        int length = text.length();
        text = "";
        return length;
    }

    int load() {
        int[] next = now.clone();
        int items = 0;
        int at = 0;
        while (true) {
            at = behindSpaces(at);
            if (at == text.length()) {
                fault = 0;
                change(next);
                return items;
            }
            int letter = "nkcpvwr".indexOf(text.charAt(at));
            if (letter < 0) {
                return fault(1, at);
            }
            int first = new int[] {0, 1, 2, 3, 10, 15, 20}[letter];
            int most = new int[] {1, 1, 1, 7, 5, 5, 2}[letter];
            List<Integer> numbers = new ArrayList<>();
            at = behindSpaces(at + 1);
            while (at < text.length() && text.charAt(at) != ';') {
                int start = at;
                while (at < text.length() && Character.isDigit(text.charAt(at))) {
                    if (at - start == 2) {
                        return fault(1, at);
                    }
                    at++;
                }
                if (at == start) {
                    return fault(1, at);
                }
                int number = Integer.parseInt(text.substring(start, at));
                int index = first + numbers.size();
                if (numbers.size() == most || !in(LOWEST[index], number, HIGHEST[index])) {
                    return fault(2, start);
                }
                numbers.add(number);
                at = behindSpaces(at);
            }
            if (at == text.length()) {
                return fault(1, at);
            }
            int sum = numbers.stream().mapToInt(Integer::intValue).sum();
            if (numbers.size() < (letter == 3 ? 1 : most) || letter == 5 && sum != 10) {
                return fault(3, at);
            }
            for (int which = 0; which < most; which++) {
                next[first + which] = which < numbers.size() ? numbers.get(which) : 0;
            }
            at++;
            items++;
        }
    }

    private int behindSpaces(int at) {
        int behind = at;
        while (behind < text.length() && text.charAt(behind) == ' ') {
            behind++;
        }
        return behind;
    }

    private int fault(int kind, int position) {
        fault = kind;
        return -10 - position;
    }

    int faultKind() {
        return fault;
    }

    private void change(int[] next) {
        before.addLast(now);
        if (before.size() > 8) {
            before.removeFirst();
        }
        now = next;
        known.clear();
    }

    private int set(int what, int v) {
        if (!in(LOWEST[what], v, HIGHEST[what])) {
            return BAD;
        }
        int[] next = now.clone();
        next[what] = v;
        int old = now[what];
        change(next);
        return old;
    }

    int setCount(int what, int v) {
        return in(0, what, 2) ? set(what, v) : BAD;
    }

    int setPayoff(int rank, int v) {
        return in(1, rank, 7) ? set(2 + rank, v) : BAD;
    }

    int setLevel(int level, int v) {
        return in(0, level, 4) ? set(10 + level, v) : BAD;
    }

    int setRecall(int age, int tenths) {
        return in(1, age, 2) ? set(19 + age, tenths) : BAD;
    }

    int shiftWeight(int from, int to, int tenths) {
        if (!in(0, from, 4) || !in(0, to, 4) || !in(0, tenths, now[15 + from])) {
            return BAD;
        }
        int[] next = now.clone();
        next[15 + from] -= tenths;
        next[15 + to] += tenths;
        change(next);
        return now[15 + to];
    }

    int parameter(int what) {
        return in(0, what, 21) ? now[what] : BAD;
    }

    // ---- the rank problem

    private static long[][][] orders(int n) {
        return ORDERS.computeIfAbsent(n, size -> {
            long[][][] counts = new long[size + 1][size + 1][size + 1];
            permute(size, new ArrayList<>(), counts);
            return counts;
        });
    }

    private static void permute(int n, List<Integer> order, long[][][] counts) {
        if (order.size() == n) {
            for (int i = 1; i <= n; i++) {
                int rank = order.get(i - 1);
                int relative = (int) order.subList(0, i).stream().filter(other -> other <= rank).count();
                counts[i][relative][rank]++;
            }
            return;
        }
        for (int rank = 1; rank <= n; rank++) {
            if (!order.contains(rank)) {
                order.add(rank);
                permute(n, order, counts);
                order.remove(order.size() - 1);
            }
        }
    }

    private Fraction worthOf(int i, int r) {
        long all = 0;
        long sum = 0;
        for (int rank = 1; rank <= n(); rank++) {
            long count = orders(n())[i][r][rank];
            all += count;
            sum += count * now[2 + rank];
        }
        return Fraction.of(sum, all);
    }

    private Fraction v(int i, int j) {
        if (j == 0 || i == n() + 1) {
            return Fraction.ZERO;
        }
        int key = i * 10 + j;
        if (!known.containsKey(key)) {
            Fraction sum = Fraction.ZERO;
            for (int r = 1; r <= i; r++) {
                sum = sum.plus(v(i + 1, j).or(worthOf(i, r).plus(v(i + 1, j - 1))));
            }
            known.put(key, sum.times(Fraction.of(1, i)).minus(cost()).or(Fraction.ZERO));
        }
        return known.get(key);
    }

    private boolean takesRank(int i, int j, int r) {
        return worthOf(i, r).plus(v(i + 1, j - 1)).compareTo(v(i + 1, j)) >= 0;
    }

    long worth(int i, int r) {
        return in(1, i, n()) && in(1, r, i) ? answer(worthOf(i, r)) : BAD_FRACTION;
    }

    long rankValue(int i, int j) {
        return in(1, i, n() + 1) && in(0, j, k()) ? answer(v(i, j)) : BAD_FRACTION;
    }

    int choosesRank(int i, int j, int r) {
        if (!in(1, i, n()) || !in(1, j, k()) || !in(1, r, i)) {
            return BAD;
        }
        return takesRank(i, j, r) ? 1 : 0;
    }

    int rankThreshold(int i, int j) {
        if (!in(1, i, n()) || !in(1, j, k())) {
            return BAD;
        }
        for (int r = 1; r <= i; r++) {
            if (!takesRank(i, j, r)) {
                return r - 1;
            }
        }
        return i;
    }

    private Fraction expectation(int what, int i, int j) {
        if (!v(i, j).isPositive()) {
            return what == 2 && j == 0 ? Fraction.ONE : Fraction.ZERO;
        }
        Fraction sum = Fraction.ZERO;
        for (int r = 1; r <= i; r++) {
            boolean taken = takesRank(i, j, r);
            sum = sum.plus(expectation(what, i + 1, taken ? j - 1 : j));
            if (what == 0 || what == 1 && taken) {
                sum = sum.plus(Fraction.ONE);
            }
        }
        return sum.times(Fraction.of(1, i));
    }

    long rankExpectation(int what) {
        return in(0, what, 2) ? answer(expectation(what, 1, k())) : BAD_FRACTION;
    }

    private Fraction skip(int s, int i, int j) {
        if (j == 0 || i > n()) {
            return Fraction.ZERO;
        }
        Fraction passed = skip(s, i + 1, j);
        Fraction mean = passed;
        if (i > s) {
            Fraction chosen = worthOf(i, 1).plus(skip(s, i + 1, j - 1));
            mean = chosen.times(Fraction.of(1, i)).plus(passed.times(Fraction.of(i - 1, i)));
        }
        return mean.minus(cost());
    }

    long skipping(int s) {
        return in(0, s, n()) ? answer(skip(s, 1, k())) : BAD_FRACTION;
    }

    int bestSkip() {
        int best = 0;
        for (int s = 1; s <= n(); s++) {
            if (skip(s, 1, k()).compareTo(skip(best, 1, k())) > 0) {
                best = s;
            }
        }
        return best;
    }

    // ---- the value problem

    private Fraction value(int level) {
        return Fraction.of(now[10 + level], 1);
    }

    private void useChances(boolean recall) {
        int newP = recall ? now[20] : 0;
        int newQ = recall ? now[21] : 0;
        if (newP != p || newQ != q) {
            known.clear();
        }
        p = newP;
        q = newQ;
    }

    private static Fraction mixed(int tenths, Fraction first, Fraction second) {
        return Fraction.of(tenths, 10).times(first).plus(Fraction.of(10 - tenths, 10).times(second));
    }

    private Fraction recall1(int i, int j, int a, int b) {
        return mixed(p, value(a).plus(onward(i, j - 1, 5, b)), onward(i, j, 5, b));
    }

    private Fraction recall2(int i, int j, int a, int b) {
        return mixed(q, value(b).plus(onward(i, j - 1, a, 5)), onward(i, j, a, 5));
    }

    private Fraction s(int i, int j, int a, int b) {
        if (j == 0) {
            return Fraction.ZERO;
        }
        int key = 1000000 + ((i * 10 + j) * 10 + a) * 10 + b;
        if (!known.containsKey(key)) {
            Fraction best = onward(i, j, a, b);
            best = a == 5 ? best : best.or(recall1(i, j, a, b));
            best = b == 5 ? best : best.or(recall2(i, j, a, b));
            known.put(key, best);
        }
        return known.get(key);
    }

    private Fraction onward(int i, int j, int a, int b) {
        if (j == 0 || i == n() + 1) {
            return Fraction.ZERO;
        }
        int key = 2000000 + ((i * 10 + j) * 10 + a) * 10 + b;
        if (!known.containsKey(key)) {
            Fraction x = Fraction.ZERO;
            for (int level = 0; level < 5; level++) {
                Fraction best = s(i + 1, j, level, a).or(value(level).plus(s(i + 1, j - 1, 5, a)));
                x = x.plus(Fraction.of(now[15 + level], 10).times(best));
            }
            known.put(key, x.minus(cost()).or(Fraction.ZERO));
        }
        return known.get(key);
    }

    private boolean takesLevel(int i, int j, int a, int level) {
        return value(level).plus(s(i + 1, j - 1, 5, a)).compareTo(s(i + 1, j, level, a)) >= 0;
    }

    private int bestRecall(int i, int j, int a, int b) {
        if (j == 0 || s(i, j, a, b).equals(onward(i, j, a, b))) {
            return 0;
        }
        return a != 5 && s(i, j, a, b).equals(recall1(i, j, a, b)) ? 1 : 2;
    }

    private boolean isSituation(int i, int j, int a, int b) {
        useChances(true);
        return in(1, i, n() + 1) && in(0, j, k()) && in(0, a, 5) && in(0, b, 5);
    }

    long situation(int i, int j, int a, int b) {
        return isSituation(i, j, a, b) ? answer(s(i, j, a, b)) : BAD_FRACTION;
    }

    int recalls(int i, int j, int a, int b) {
        return isSituation(i, j, a, b) ? bestRecall(i, j, a, b) : BAD;
    }

    int observes(int i, int j, int a, int b) {
        if (!isSituation(i, j, a, b)) {
            return BAD;
        }
        return onward(i, j, a, b).isPositive() ? 1 : 0;
    }

    int choosesLevel(int i, int j, int a, int level) {
        if (!in(1, i, n()) || !in(1, j, k()) || !in(0, a, 5) || !in(0, level, 4)) {
            return BAD;
        }
        useChances(true);
        return takesLevel(i, j, a, level) ? 1 : 0;
    }

    int valueThreshold(int i, int j, int a) {
        if (!in(1, i, n()) || !in(1, j, k()) || !in(0, a, 5)) {
            return BAD;
        }
        useChances(true);
        int smallest = NONE;
        for (int value = 99; value >= 0; value--) {
            for (int level = 0; level < 5; level++) {
                if (now[10 + level] == value && takesLevel(i, j, a, level)) {
                    smallest = value;
                }
            }
        }
        return smallest;
    }

    private Fraction fix(int h, int i, int j) {
        if (j == 0 || i > n()) {
            return Fraction.ZERO;
        }
        Fraction passed = fix(h, i + 1, j);
        Fraction rest = fix(h, i + 1, j - 1);
        Fraction sum = Fraction.ZERO;
        for (int level = 0; level < 5; level++) {
            Fraction next = now[10 + level] >= h ? value(level).plus(rest) : passed;
            sum = sum.plus(Fraction.of(now[15 + level], 10).times(next));
        }
        return sum.minus(cost());
    }

    long fixed(int h) {
        return in(0, h, 99) ? answer(fix(h, 1, k())) : BAD_FRACTION;
    }

    int bestFixed() {
        int best = 0;
        Fraction most = fix(0, 1, k());
        for (int h = 1; h <= 99; h++) {
            Fraction value = fix(h, 1, k());
            if (value.compareTo(most) > 0) {
                best = h;
                most = value;
            }
        }
        return best;
    }

    long recallGain() {
        useChances(true);
        Fraction with = s(1, k(), 5, 5);
        useChances(false);
        return answer(with.minus(s(1, k(), 5, 5)));
    }

    long price(boolean values) {
        if (k() == 3) {
            return BAD_FRACTION;
        }
        useChances(true);
        return answer(values ? s(1, k() + 1, 5, 5).minus(s(1, k(), 5, 5)) : v(1, k() + 1).minus(v(1, k())));
    }

    long denominator() {
        return latest;
    }

    // ---- simulations

    private int z;

    private int number() {
        z = z * 1103515245 + 12345;
        return (z >>> 16) & 32767;
    }

    int simulateRanks(int seed, int what) {
        if (!in(0, what, 2)) {
            return BAD;
        }
        z = seed;
        int[] relative = new int[n() + 1];
        List<Integer> bestFirst = new ArrayList<>();
        for (int i = 1; i <= n(); i++) {
            relative[i] = 1 + number() % i;
            bestFirst.add(relative[i] - 1, i);
        }
        int[] result = new int[3];
        int j = k();
        for (int i = 1; v(i, j).isPositive(); i++) {
            result[1]++;
            if (takesRank(i, j, relative[i])) {
                result[0] += now[3 + bestFirst.indexOf(i)];
                result[2] += 1 << (i - 1);
                j--;
            }
        }
        return result[what];
    }

    int simulateValues(int seed, int what) {
        if (!in(0, what, 4)) {
            return BAD;
        }
        useChances(true);
        z = seed;
        int[] result = new int[5];
        int i = 1;
        int j = k();
        int a = 5;
        int b = 5;
        while (true) {
            int recall = bestRecall(i, j, a, b);
            if (recall != 0) {
                result[3]++;
                if (number() % 10 < now[19 + recall]) {
                    result[4]++;
                    result[0] += now[10 + (recall == 1 ? a : b)];
                    j--;
                }
                if (recall == 1) {
                    a = 5;
                } else {
                    b = 5;
                }
            }
            if (!onward(i, j, a, b).isPositive()) {
                return result[what];
            }
            result[1]++;
            int rest = number() % 10;
            int level = 0;
            while (rest >= now[15 + level]) {
                rest -= now[15 + level];
                level++;
            }
            boolean taken = takesLevel(i, j, a, level);
            if (taken) {
                result[0] += now[10 + level];
                result[2] += 1 << (i - 1);
                j--;
            }
            b = a;
            a = taken ? 5 : level;
            i++;
        }
    }

    // ---- history

    int undo() {
        if (before.isEmpty()) {
            return STATE;
        }
        now = before.removeLast();
        known.clear();
        return before.size();
    }

    int count(int what) {
        int count = 0;
        switch (what) {
            case 0:
                return text.length();
            case 1:
                return before.size();
            case 2:
                for (int level = 0; level < 5; level++) {
                    count += now[15 + level] == 0 ? 0 : 1;
                }
                return count;
            case 3:
                for (int i = 1; i <= n(); i++) {
                    for (int j = 1; j <= k(); j++) {
                        count += v(i, j).isPositive() ? 0 : 1;
                    }
                }
                return count;
            default:
                return BAD;
        }
    }

    long digest() {
        long kept = latest;
        List<Long> list = new ArrayList<>();
        for (int what = 0; what <= 21; what++) {
            list.add((long) parameter(what));
        }
        for (int j = 0; j <= k(); j++) {
            list.add(rankValue(1, j));
            list.add(denominator());
        }
        for (int i = 1; i <= n(); i++) {
            for (int j = 1; j <= k(); j++) {
                list.add((long) rankThreshold(i, j));
            }
        }
        for (int what = 0; what <= 2; what++) {
            list.add(rankExpectation(what));
            list.add(denominator());
        }
        list.add((long) bestSkip());
        for (int j = 0; j <= k(); j++) {
            list.add(situation(1, j, 5, 5));
            list.add(denominator());
        }
        for (int i = 1; i <= n(); i++) {
            list.add((long) recalls(i, k(), 0, 4));
            list.add((long) valueThreshold(i, k(), 5));
        }
        list.add((long) bestFixed());
        list.add(recallGain());
        list.add(denominator());
        for (int what = 0; what <= 3; what++) {
            list.add((long) count(what));
        }
        latest = kept;
        long h = 18474;
        for (long v : list) {
            h = 31 * h + v;
        }
        return h;
    }
}
