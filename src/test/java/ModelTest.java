import java.util.Random;

/** All promises: long runs of random calls, right and wrong ones, answered by the class and by the model. */
public final class ModelTest {
    private static final int METHODS = 32;
    /** The promise of each method, in the order of the switch below. */
    private static final int[] PROMISES = {
        2, 3, 4, 5, 6, 7, 8, 9, 10, 11, 12, 13, 14, 15, 16, 17, 18, 19, 20, 21, 22, 23, 24, 25, 26, 27, 28, 29, 30,
        31, 32, 33};
    private static final int[] CHANGES = {0, 2, 4, 5, 6, 7, 8, 29};
    private static final int[] ODD = {Integer.MIN_VALUE, Integer.MIN_VALUE + 1, -1, 100, Integer.MAX_VALUE, 1 << 30};
    private static final Checks c = new Checks("ModelTest");
    private static Random random;

    public static void main(String[] args) {
        int runs = args.length > 0 ? Integer.parseInt(args[0]) : 60;
        for (int run = 1; run <= runs; run++) {
            random = new Random(run);
            run();
        }
        c.end();
    }

    private static void run() {
        StoppingPlanner x = new StoppingPlanner();
        Model y = new Model();
        int changesInTen = random.nextInt(8);
        for (int call = 1; call <= 512; call++) {
            int method = random.nextInt(10) < changesInTen ? CHANGES[random.nextInt(CHANGES.length)] : random.nextInt(METHODS);
            if (method == 0 || random.nextInt(40) == 0) {
                typeText(x, y);
            }
            call(method, x, y);
            c.promise(28);
            c.due("denominator()", x.denominator(), y.denominator());
        }
        for (int what = 0; what <= 21; what++) {
            c.promise(11);
            c.due("parameter(" + what + ")", x.parameter(what), y.parameter(what));
        }
        c.promise(33);
        c.due("digest()", x.digest(), y.digest());
    }

    /** Mostly from least to most, sometimes beside it or far off. */
    private static int number(int least, int most) {
        int kind = random.nextInt(60);
        if (kind == 0) {
            return ODD[random.nextInt(ODD.length)];
        }
        if (kind == 1) {
            return least - 1;
        }
        if (kind == 2) {
            return most + 1;
        }
        return least + random.nextInt(Math.max(1, most - least + 1));
    }

    private static void typeText(StoppingPlanner x, Model y) {
        c.promise(3);
        if (random.nextInt(5) != 0) {
            c.due("clearText()", x.clearText(), y.clearText());
        }
        int items = random.nextInt(5);
        StringBuilder text = new StringBuilder();
        for (int item = 0; item < items; item++) {
            appendItem(text);
        }
        for (int slip = random.nextInt(4); slip == 0 && text.length() > 0; slip = random.nextInt(4)) {
            text.setCharAt(random.nextInt(text.length()), "nkcpvwr0123456789 ;;xN~".charAt(random.nextInt(23)));
        }
        c.promise(2);
        for (int at = 0; at < text.length(); at++) {
            c.due("type(" + text.charAt(at) + ")", x.type(text.charAt(at)), y.type(text.charAt(at)));
        }
        c.promise(4);
        c.due("load() of '" + text + "'", x.load(), y.load());
        c.promise(5);
        c.due("faultKind() of '" + text + "'", x.faultKind(), y.faultKind());
    }

    private static void appendItem(StringBuilder text) {
        int letter = random.nextInt(7);
        text.append("nkcpvwr".charAt(letter));
        int numbers = new int[] {1, 1, 1, 1 + random.nextInt(7), 5, 5, 2}[letter];
        int most = new int[] {7, 3, 20, 99, 99, 10, 10}[letter];
        int slip = random.nextInt(12);
        numbers += slip == 0 ? 1 : slip == 1 ? -1 : 0;
        int left = 10;
        for (int at = 1; at <= numbers; at++) {
            int number = letter < 2 ? 1 + random.nextInt(most) : random.nextInt(most + 1);
            if (letter == 5) {
                number = at == 5 ? left : random.nextInt(left + 1);
                left -= number;
            }
            number = random.nextInt(40) == 0 ? random.nextInt(120) : number;
            text.append(" ".repeat(random.nextInt(6) == 0 ? 2 : at == 1 ? random.nextInt(2) : 1));
            text.append(random.nextInt(8) == 0 && number < 10 ? "0" : "").append(number);
        }
        text.append(" ".repeat(random.nextInt(8) == 0 ? 1 : 0)).append(";");
    }

    private static void call(int method, StoppingPlanner x, Model y) {
        int n = y.parameter(0);
        int k = y.parameter(1);
        int i = number(1, n);
        int place = number(1, n + 1);
        int j = number(1, k);
        int left = number(0, k);
        int a = number(0, 5);
        int b = number(0, 5);
        int level = number(0, 4);
        int to = number(0, 4);
        int r = number(1, Math.max(1, Math.min(7, i)));
        int age = number(1, 2);
        int tenths = number(0, 10);
        int value = random.nextInt(3) == 0 ? number(0, 5) : number(0, 99);
        int two = number(0, 2);
        int countValue = two == 0 ? number(1, 7) : two == 1 ? number(1, 3) : number(0, random.nextInt(3) == 0 ? 20 : 6);
        int seed = random.nextInt();
        String call = "method " + method + " of the promise " + PROMISES[method] + " with n " + n + ", k " + k + ", i " + i
            + ", place " + place + ", j " + j + ", left " + left + ", a " + a + ", b " + b + ", level " + level;
        c.promise(PROMISES[method]);
        switch (method) {
            case 0: { int code = number(32, 126); c.due(call, x.type(code), y.type(code)); break; }
            case 1: c.due(call, x.clearText(), y.clearText()); break;
            case 2: c.due(call, x.load(), y.load()); break;
            case 3: c.due(call, x.faultKind(), y.faultKind()); break;
            case 4: c.due(call, x.setCount(two, countValue), y.setCount(two, countValue)); break;
            case 5: { int rank = number(1, 7); c.due(call, x.setPayoff(rank, value), y.setPayoff(rank, value)); break; }
            case 6: c.due(call, x.setLevel(level, value), y.setLevel(level, value)); break;
            case 7: c.due(call, x.setRecall(age, tenths), y.setRecall(age, tenths)); break;
            case 8: { int some = number(0, 4); c.due(call, x.shiftWeight(level, to, some), y.shiftWeight(level, to, some)); break; }
            case 9: { int what = number(0, 21); c.due(call, x.parameter(what), y.parameter(what)); break; }
            case 10: c.due(call, x.worth(i, r), y.worth(i, r)); break;
            case 11: c.due(call, x.rankValue(place, left), y.rankValue(place, left)); break;
            case 12: c.due(call, x.choosesRank(i, j, r), y.choosesRank(i, j, r)); break;
            case 13: c.due(call, x.rankThreshold(i, j), y.rankThreshold(i, j)); break;
            case 14: c.due(call, x.rankExpectation(two), y.rankExpectation(two)); break;
            case 15: { int s = number(0, n); c.due(call, x.skipping(s), y.skipping(s)); break; }
            case 16: c.due(call, x.bestSkip(), y.bestSkip()); break;
            case 17: c.due(call, x.situation(place, left, a, b), y.situation(place, left, a, b)); break;
            case 18: c.due(call, x.recalls(place, left, a, b), y.recalls(place, left, a, b)); break;
            case 19: c.due(call, x.observes(place, left, a, b), y.observes(place, left, a, b)); break;
            case 20: c.due(call, x.choosesLevel(i, j, a, level), y.choosesLevel(i, j, a, level)); break;
            case 21: c.due(call, x.valueThreshold(i, j, a), y.valueThreshold(i, j, a)); break;
            case 22: { int h = number(0, 99); c.due(call, x.fixed(h), y.fixed(h)); break; }
            case 23: if (n < 6 || random.nextInt(9) == 0) { c.due(call, x.bestFixed(), y.bestFixed()); } break;
            case 24: c.due(call, x.recallGain(), y.recallGain()); break;
            case 25: { boolean which = seed > 0; c.due(call, x.price(which), y.price(which)); break; }
            case 26: c.due(call, x.denominator(), y.denominator()); break;
            case 27: c.due(call, x.simulateRanks(seed, two), y.simulateRanks(seed, two)); break;
            case 28: { int what = number(0, 4); c.due(call, x.simulateValues(seed, what), y.simulateValues(seed, what)); break; }
            case 29: c.due(call, x.undo(), y.undo()); break;
            case 30: { int what = number(0, 3); c.due(call, x.count(what), y.count(what)); break; }
            default: if (n < 6 || random.nextInt(9) == 0) { c.due(call, x.digest(), y.digest()); } break;
        }
    }
}
