/** Promises 1, 6 to 11, 31 and 32: the parameters, their changes, undo and the counts. */
public final class ParametersTest {
    private static final int[] INITIAL = {
        5, 1, 0, 99, 0, 0, 0, 0, 0, 0, 0, 10, 20, 30, 40, 2, 2, 2, 2, 2, 0, 0};
    private static final int[] ODD = {Integer.MIN_VALUE, -1000, -1, 100, 1000, Integer.MAX_VALUE};
    private static final Checks c = new Checks("ParametersTest");

    public static void main(String[] args) {
        newObject();
        setCount();
        setPayoff();
        setLevel();
        setRecall();
        shiftWeight();
        parameter();
        undo();
        undoRestoresAllParametersAndNothingElse();
        count();
        c.end();
    }

    private static void allInitial(StoppingPlanner x) {
        for (int what = 0; what < INITIAL.length; what++) {
            c.due("parameter(" + what + ")", x.parameter(what), INITIAL[what]);
        }
    }

    private static void newObject() {
        c.promise(1);
        StoppingPlanner x = new StoppingPlanner();
        allInitial(x);
        c.due("denominator()", x.denominator(), 1);
        c.due("count(0)", x.count(0), 0);
        c.due("count(1)", x.count(1), 0);
        c.due("undo()", x.undo(), StoppingPlanner.STATE);
        c.due("faultKind()", x.faultKind(), 0);
        c.due("clearText()", x.clearText(), 0);
        StoppingPlanner other = new StoppingPlanner();
        x.setCount(0, 7);
        x.type('n');
        allInitial(other);
        c.due("count(0) of another object", other.count(0), 0);
    }

    private static void setCount() {
        c.promise(6);
        StoppingPlanner x = new StoppingPlanner();
        int[] least = {1, 1, 0};
        int[] most = {7, 3, 20};
        for (int what = 0; what <= 2; what++) {
            c.due("setCount(" + what + ", below)", x.setCount(what, least[what] - 1), StoppingPlanner.BAD);
            c.due("setCount(" + what + ", above)", x.setCount(what, most[what] + 1), StoppingPlanner.BAD);
            c.due("count(1)", x.count(1), 3 * what);
            c.due("setCount(" + what + ", most)", x.setCount(what, most[what]), INITIAL[what]);
            c.due("parameter(" + what + ")", x.parameter(what), most[what]);
            c.due("setCount(" + what + ", least)", x.setCount(what, least[what]), most[what]);
            c.due("parameter(" + what + ")", x.parameter(what), least[what]);
            c.due("setCount(" + what + ", the same)", x.setCount(what, least[what]), least[what]);
            c.due("count(1)", x.count(1), Math.min(8, 3 * what + 3));
            for (int odd : ODD) {
                c.due("setCount(" + what + ", " + odd + ")", x.setCount(what, odd), StoppingPlanner.BAD);
                c.due("setCount(" + odd + ", 1)", x.setCount(odd, 1), StoppingPlanner.BAD);
            }
        }
        c.due("setCount(3, 1)", x.setCount(3, 1), StoppingPlanner.BAD);
        c.due("parameter(3)", x.parameter(3), 99);
    }

    private static void setPayoff() {
        c.promise(7);
        StoppingPlanner x = new StoppingPlanner();
        for (int rank = 1; rank <= 7; rank++) {
            c.due("setPayoff(" + rank + ", 100)", x.setPayoff(rank, 100), StoppingPlanner.BAD);
            c.due("setPayoff(" + rank + ", -1)", x.setPayoff(rank, -1), StoppingPlanner.BAD);
            c.due("setPayoff(" + rank + ", 99)", x.setPayoff(rank, 99), rank == 1 ? 99 : 0);
            c.due("setPayoff(" + rank + ", 0)", x.setPayoff(rank, 0), 99);
            c.due("setPayoff(" + rank + ", 10 + rank)", x.setPayoff(rank, 10 + rank), 0);
        }
        for (int rank = 1; rank <= 7; rank++) {
            c.due("parameter(" + (2 + rank) + ")", x.parameter(2 + rank), 10 + rank);
        }
        c.due("setPayoff(0, 1)", x.setPayoff(0, 1), StoppingPlanner.BAD);
        c.due("setPayoff(8, 1)", x.setPayoff(8, 1), StoppingPlanner.BAD);
        for (int odd : ODD) {
            c.due("setPayoff(" + odd + ", 1)", x.setPayoff(odd, 1), StoppingPlanner.BAD);
            c.due("setPayoff(1, " + odd + ")", x.setPayoff(1, odd), StoppingPlanner.BAD);
        }
        c.due("parameter(2)", x.parameter(2), 0);
        c.due("parameter(10)", x.parameter(10), 0);
        c.due("count(1)", x.count(1), 8);
    }

    private static void setLevel() {
        c.promise(8);
        StoppingPlanner x = new StoppingPlanner();
        for (int level = 0; level <= 4; level++) {
            c.due("setLevel(" + level + ", 100)", x.setLevel(level, 100), StoppingPlanner.BAD);
            c.due("setLevel(" + level + ", -1)", x.setLevel(level, -1), StoppingPlanner.BAD);
            c.due("setLevel(" + level + ", 99)", x.setLevel(level, 99), 10 * level);
            c.due("setLevel(" + level + ", 0)", x.setLevel(level, 0), 99);
            c.due("setLevel(" + level + ", 50 - level)", x.setLevel(level, 50 - level), 0);
        }
        for (int level = 0; level <= 4; level++) {
            c.due("parameter(" + (10 + level) + ")", x.parameter(10 + level), 50 - level);
        }
        c.due("setLevel(-1, 1)", x.setLevel(-1, 1), StoppingPlanner.BAD);
        c.due("setLevel(5, 1)", x.setLevel(5, 1), StoppingPlanner.BAD);
        for (int odd : ODD) {
            c.due("setLevel(" + odd + ", 1)", x.setLevel(odd, 1), StoppingPlanner.BAD);
            c.due("setLevel(1, " + odd + ")", x.setLevel(1, odd), StoppingPlanner.BAD);
        }
        c.due("parameter(9)", x.parameter(9), 0);
        c.due("parameter(15)", x.parameter(15), 2);
    }

    private static void setRecall() {
        c.promise(9);
        StoppingPlanner x = new StoppingPlanner();
        for (int age = 1; age <= 2; age++) {
            c.due("setRecall(" + age + ", 11)", x.setRecall(age, 11), StoppingPlanner.BAD);
            c.due("setRecall(" + age + ", -1)", x.setRecall(age, -1), StoppingPlanner.BAD);
            c.due("setRecall(" + age + ", 10)", x.setRecall(age, 10), 0);
            c.due("setRecall(" + age + ", 3 + age)", x.setRecall(age, 3 + age), 10);
        }
        c.due("parameter(20)", x.parameter(20), 4);
        c.due("parameter(21)", x.parameter(21), 5);
        c.due("setRecall(0, 5)", x.setRecall(0, 5), StoppingPlanner.BAD);
        c.due("setRecall(3, 5)", x.setRecall(3, 5), StoppingPlanner.BAD);
        for (int odd : ODD) {
            c.due("setRecall(" + odd + ", 1)", x.setRecall(odd, 1), StoppingPlanner.BAD);
            c.due("setRecall(1, " + odd + ")", x.setRecall(1, odd), StoppingPlanner.BAD);
        }
        c.due("parameter(19)", x.parameter(19), 2);
        c.due("count(1)", x.count(1), 4);
    }

    private static void shiftWeight() {
        c.promise(10);
        StoppingPlanner x = new StoppingPlanner();
        c.due("shiftWeight(0, 1, 3)", x.shiftWeight(0, 1, 3), StoppingPlanner.BAD);
        c.due("shiftWeight(0, 1, -1)", x.shiftWeight(0, 1, -1), StoppingPlanner.BAD);
        c.due("shiftWeight(-1, 1, 0)", x.shiftWeight(-1, 1, 0), StoppingPlanner.BAD);
        c.due("shiftWeight(5, 1, 0)", x.shiftWeight(5, 1, 0), StoppingPlanner.BAD);
        c.due("shiftWeight(0, -1, 0)", x.shiftWeight(0, -1, 0), StoppingPlanner.BAD);
        c.due("shiftWeight(0, 5, 0)", x.shiftWeight(0, 5, 0), StoppingPlanner.BAD);
        for (int odd : ODD) {
            c.due("shiftWeight(" + odd + ", 1, 0)", x.shiftWeight(odd, 1, 0), StoppingPlanner.BAD);
            c.due("shiftWeight(1, " + odd + ", 0)", x.shiftWeight(1, odd, 0), StoppingPlanner.BAD);
            c.due("shiftWeight(1, 2, " + odd + ")", x.shiftWeight(1, 2, odd), StoppingPlanner.BAD);
        }
        c.due("count(1)", x.count(1), 0);
        c.due("shiftWeight(0, 1, 0)", x.shiftWeight(0, 1, 0), 2);
        c.due("count(1)", x.count(1), 1);
        c.due("shiftWeight(0, 1, 1)", x.shiftWeight(0, 1, 1), 3);
        c.due("parameter(15)", x.parameter(15), 1);
        c.due("parameter(16)", x.parameter(16), 3);
        c.due("shiftWeight(3, 3, 2)", x.shiftWeight(3, 3, 2), 2);
        c.due("shiftWeight(3, 3, 3)", x.shiftWeight(3, 3, 3), StoppingPlanner.BAD);
        c.due("parameter(18)", x.parameter(18), 2);
        c.due("count(1)", x.count(1), 3);
        x.shiftWeight(0, 4, 1);
        x.shiftWeight(1, 4, 3);
        x.shiftWeight(2, 4, 2);
        c.due("shiftWeight(3, 4, 2)", x.shiftWeight(3, 4, 2), 10);
        c.due("shiftWeight(0, 4, 1)", x.shiftWeight(0, 4, 1), StoppingPlanner.BAD);
        c.due("shiftWeight(4, 0, 10)", x.shiftWeight(4, 0, 10), 10);
        c.due("parameter(19)", x.parameter(19), 0);
    }

    private static void parameter() {
        c.promise(11);
        StoppingPlanner x = new StoppingPlanner();
        Checks.typeText(x, "n6;k2;c9;p1 2 3 4 5 6 7;v11 12 13 14 15;w0 1 2 3 4;r8 10;");
        c.due("load()", x.load(), 7);
        int[] want = {6, 2, 9, 1, 2, 3, 4, 5, 6, 7, 11, 12, 13, 14, 15, 0, 1, 2, 3, 4, 8, 10};
        for (int what = 0; what < want.length; what++) {
            c.due("parameter(" + what + ")", x.parameter(what), want[what]);
        }
        c.due("parameter(-1)", x.parameter(-1), StoppingPlanner.BAD);
        c.due("parameter(22)", x.parameter(22), StoppingPlanner.BAD);
        for (int odd : ODD) {
            c.due("parameter(" + odd + ")", x.parameter(odd), StoppingPlanner.BAD);
        }
        c.due("count(1)", x.count(1), 1);
    }

    private static void undo() {
        c.promise(31);
        StoppingPlanner x = new StoppingPlanner();
        for (int change = 1; change <= 12; change++) {
            x.setPayoff(2, change);
            c.due("count(1)", x.count(1), Math.min(8, change));
        }
        for (int left = 7; left >= 0; left--) {
            c.due("undo()", x.undo(), left);
            c.due("parameter(4)", x.parameter(4), 4 + left);
        }
        c.due("undo()", x.undo(), StoppingPlanner.STATE);
        c.due("parameter(4)", x.parameter(4), 4);
        x.setCount(1, 2);
        x.setCount(1, 9);
        c.due("undo() after a refused change", x.undo(), 0);
        c.due("parameter(1)", x.parameter(1), 1);
        Checks.typeText(x, "n9;");
        x.load();
        c.due("undo() after a refused load", x.undo(), StoppingPlanner.STATE);
    }

    private static void undoRestoresAllParametersAndNothingElse() {
        c.promise(31);
        StoppingPlanner x = new StoppingPlanner();
        x.setCount(0, 7);
        x.setPayoff(7, 3);
        x.setLevel(4, 99);
        x.setRecall(2, 4);
        x.shiftWeight(0, 4, 2);
        long before = x.rankValue(1, 1);
        x.setCount(2, 5);
        c.due("rankValue(1, 1) is another one", x.rankValue(1, 1) != before, true);
        c.due("undo()", x.undo(), 5);
        c.due("rankValue(1, 1)", x.rankValue(1, 1), before);
        Checks.typeText(x, "x");
        x.load();
        for (int left = 4; left >= 0; left--) {
            c.due("undo()", x.undo(), left);
        }
        allInitial(x);
        c.due("count(0)", x.count(0), 1);
        c.due("faultKind()", x.faultKind(), 1);
        c.fraction("situation(1, 1, 5, 5)", x, x.situation(1, 1, 5, 5), 4176, 125);
        x.setLevel(0, 99);
        c.due("undo()", x.undo(), 0);
        c.due("denominator()", x.denominator(), 125);
        c.fraction("situation(1, 1, 5, 5)", x, x.situation(1, 1, 5, 5), 4176, 125);
    }

    private static void count() {
        c.promise(32);
        StoppingPlanner x = new StoppingPlanner();
        c.due("count(2)", x.count(2), 5);
        c.due("count(3)", x.count(3), 0);
        x.type(32);
        x.type(33);
        c.due("count(0)", x.count(0), 2);
        x.shiftWeight(0, 4, 2);
        x.shiftWeight(1, 4, 1);
        c.due("count(1)", x.count(1), 2);
        c.due("count(2)", x.count(2), 4);
        x.setCount(1, 3);
        x.setCount(2, 20);
        // The chance of the first rank is worth 99 / 5 before the last candidate: less than the cost.
        c.due("count(3)", x.count(3), 15);
        x.setCount(2, 19);
        c.due("count(3) with a last candidate that pays", x.count(3), 0);
        x.setPayoff(1, 0);
        c.due("count(3) without payoffs", x.count(3), 15);
        x.setCount(0, 2);
        c.due("count(3)", x.count(3), 6);
        c.due("count(-1)", x.count(-1), StoppingPlanner.BAD);
        c.due("count(4)", x.count(4), StoppingPlanner.BAD);
        for (int odd : ODD) {
            c.due("count(" + odd + ")", x.count(odd), StoppingPlanner.BAD);
        }
    }
}
