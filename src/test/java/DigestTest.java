/** Promise 33: the digest, reckoned again from what the other methods answer. */
public final class DigestTest {
    private static final Checks c = new Checks("DigestTest");
    private static long h;

    public static void main(String[] args) {
        c.promise(33);
        c.due("digest() after load() of an empty text", Checks.planner("").digest(), 4537757410008869703L);
        String[] texts = {
            "", "n1;", "n7;k3;c2;p50 40 30;w0 1 2 3 4;r5 2;", "n4;k2;r10 10;v9 8 7 6 5;c20;",
            "n6;k2;p0 99 0 5;c1;v0 0 0 99 98;w9 0 0 0 1;r0 7;"};
        for (String text : texts) {
            StoppingPlanner x = Checks.planner(text);
            check(x, text);
            x.setCount(2, 4);
            check(x, text + " and a cost of 4");
            x.undo();
            check(x, text + " after undo()");
        }
        keepsTheDenominator();
        c.end();
    }

    private static void add(long v) {
        h = 31 * h + v;
    }

    private static void check(StoppingPlanner x, String text) {
        int n = x.parameter(0);
        int k = x.parameter(1);
        h = 18474;
        for (int what = 0; what <= 21; what++) {
            add(x.parameter(what));
        }
        for (int j = 0; j <= k; j++) {
            add(x.rankValue(1, j));
            add(x.denominator());
        }
        for (int i = 1; i <= n; i++) {
            for (int j = 1; j <= k; j++) {
                add(x.rankThreshold(i, j));
            }
        }
        for (int what = 0; what <= 2; what++) {
            add(x.rankExpectation(what));
            add(x.denominator());
        }
        add(x.bestSkip());
        for (int j = 0; j <= k; j++) {
            add(x.situation(1, j, 5, 5));
            add(x.denominator());
        }
        for (int i = 1; i <= n; i++) {
            add(x.recalls(i, k, 0, 4));
            add(x.valueThreshold(i, k, 5));
        }
        add(x.bestFixed());
        add(x.recallGain());
        add(x.denominator());
        for (int what = 0; what <= 3; what++) {
            add(x.count(what));
        }
        c.due("digest() of '" + text + "'", x.digest(), h);
    }

    private static void keepsTheDenominator() {
        StoppingPlanner x = new StoppingPlanner();
        x.setRecall(2, 5);
        long digest = x.digest();
        c.due("denominator() after the first digest()", x.denominator(), 1);
        x.rankValue(1, 1);
        c.due("digest()", x.digest(), digest);
        c.due("denominator()", x.denominator(), 10);
    }
}
