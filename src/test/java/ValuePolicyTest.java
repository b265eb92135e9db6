/**
 * Promises 19 to 22: follows the best policy of the value problem, as recalls, observes and choosesLevel tell
 * it, through all that can come; the mean of what it brings must be the value that situation tells.
 */
public final class ValuePolicyTest {
    private static final Checks c = new Checks("ValuePolicyTest");
    private static StoppingPlanner x;

    public static void main(String[] args) {
        c.promise(19);
        String[] texts = {
            "n1;k1;r5 5;", "n3;k1;r5 9;", "n3;k2;r10 10;c3;", "n4;k2;r3 8;c7;w1 0 4 4 1;v3 99 20 20 50;",
            "n4;k3;r9 2;c2;v60 3 5 9 0;w1 1 1 1 6;", "n4;k1;r0 10;c20;", "n3;k3;r7 7;c0;v1 2 3 4 5;"};
        for (String text : texts) {
            x = Checks.planner(text);
            int n = x.parameter(0);
            int k = x.parameter(1);
            check(text, 1, k, 5, 5);
            check(text, 2, k, 4, 5);
            check(text, n + 1, k, 2, 1);
            for (int a = 0; a <= 5; a++) {
                for (int b = 0; b <= 5; b++) {
                    check(text, n, k, a, b);
                    check(text, n, 1, a, b);
                }
            }
        }
        c.end();
    }

    private static void check(String text, int i, int j, int a, int b) {
        long numerator = x.situation(i, j, a, b);
        Model.Fraction value = Model.Fraction.of(numerator, x.denominator());
        String situation = "situation(" + i + ", " + j + ", " + a + ", " + b + ") of " + text;
        c.due(situation, value.compareTo(before(i, j, a, b)), 0);
    }

    private static Model.Fraction before(int i, int j, int a, int b) {
        int age = x.recalls(i, j, a, b);
        if (age == 0) {
            return after(i, j, a, b);
        }
        int nextA = age == 1 ? 5 : a;
        int nextB = age == 2 ? 5 : b;
        int level = age == 1 ? a : b;
        Model.Fraction won = Model.Fraction.of(x.parameter(10 + level), 1).plus(after(i, j - 1, nextA, nextB));
        int tenths = x.parameter(19 + age);
        return won.times(Model.Fraction.of(tenths, 10))
            .plus(after(i, j, nextA, nextB).times(Model.Fraction.of(10 - tenths, 10)));
    }

    private static Model.Fraction after(int i, int j, int a, int b) {
        Model.Fraction sum = Model.Fraction.ZERO;
        if (x.observes(i, j, a, b) == 0) {
            return sum;
        }
        for (int level = 0; level < 5; level++) {
            Model.Fraction next = x.choosesLevel(i, j, a, level) == 1
                ? before(i + 1, j - 1, 5, a).plus(Model.Fraction.of(x.parameter(10 + level), 1))
                : before(i + 1, j, level, a);
            sum = sum.plus(next.times(Model.Fraction.of(x.parameter(15 + level), 10)));
        }
        return sum.minus(Model.Fraction.of(x.parameter(2), 1));
    }
}
