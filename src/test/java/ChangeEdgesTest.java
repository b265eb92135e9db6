import java.util.LinkedHashMap;
import java.util.Map;
import java.util.function.ToLongFunction;

/** The boundaries that the document names for changes, undo and errors: a test for each sentence. */
public final class ChangeEdgesTest {
    private static final int BAD = StoppingPlanner.BAD;
    private static final int STATE = StoppingPlanner.STATE;
    private static final int FULL = StoppingPlanner.FULL;
    private static final int NONE = StoppingPlanner.NONE;
    private static final long BAD_FRACTION = StoppingPlanner.BAD_FRACTION;
    private static final Checks c = new Checks("ChangeEdgesTest");

    public static void main(String[] args) {
        changesThatChangeNothing();
        otherCallsAreNoChanges();
        changesRecordAllParameters();
        atMostEightStates();
        oldestIsDropped();
        refusedChangesDropNothing();
        codes();
        firstCodeIsReturned();
        refusedCallsChangeNothing();
        noneIsNoCode();
        badFraction();
        undoAnswers();
        undoRestores();
        c.end();
    }

    private static Map<String, ToLongFunction<StoppingPlanner>> calls() {
        return new LinkedHashMap<>();
    }

    // ---- changes

    private static void changesThatChangeNothing() {
        c.sentence(0, "Changes are the successful calls of load, setCount, setPayoff, setLevel, setRecall and"
            + " shiftWeight, also those by which everything stays the same.");
        Map<String, ToLongFunction<StoppingPlanner>> calls = calls();
        calls.put("load() of an empty text", x -> x.load());
        calls.put("setCount(0, 5)", x -> x.setCount(0, 5));
        calls.put("setCount(1, 1)", x -> x.setCount(1, 1));
        calls.put("setCount(2, 0)", x -> x.setCount(2, 0));
        calls.put("setPayoff(1, 99)", x -> x.setPayoff(1, 99));
        calls.put("setPayoff(7, 0)", x -> x.setPayoff(7, 0));
        calls.put("setLevel(0, 0)", x -> x.setLevel(0, 0));
        calls.put("setLevel(4, 40)", x -> x.setLevel(4, 40));
        calls.put("setRecall(1, 0)", x -> x.setRecall(1, 0));
        calls.put("setRecall(2, 0)", x -> x.setRecall(2, 0));
        calls.put("shiftWeight(0, 1, 0)", x -> x.shiftWeight(0, 1, 0));
        calls.put("shiftWeight(2, 2, 2)", x -> x.shiftWeight(2, 2, 2));
        calls.forEach((name, call) -> {
            StoppingPlanner x = new StoppingPlanner();
            StoppingPlanner untouched = new StoppingPlanner();
            for (int states = 1; states <= 9; states++) {
                c.due(name + " succeeds", call.applyAsLong(x) >= 0, true);
                c.due("count(1) after " + name, x.count(1), Math.min(8, states));
            }
            sameParameters(name, x, untouched);
            for (int left = 7; left >= 0; left--) {
                c.due("undo() of " + name, x.undo(), left);
            }
            sameParameters("undo() of " + name, x, untouched);
        });
        StoppingPlanner x = new StoppingPlanner();
        Checks.typeText(x, "n5;k1;v0 10 20 30 40;w2 2 2 2 2;r0 0;p99;c0;");
        c.due("load() of what is so already", x.load(), 7);
        c.due("count(1)", x.count(1), 1);
    }

    private static void otherCallsAreNoChanges() {
        c.sentence(0, "Changes are the successful calls of load, setCount, setPayoff, setLevel, setRecall and"
            + " shiftWeight,");
        StoppingPlanner x = new StoppingPlanner();
        x.type('x');
        x.load();
        x.clearText();
        x.type('n');
        x.load();
        x.faultKind();
        x.parameter(0);
        c.due("count(1) after the text's calls", x.count(1), 0);
        x.worth(1, 1);
        x.rankValue(1, 1);
        x.choosesRank(1, 1, 1);
        x.rankThreshold(1, 1);
        x.rankExpectation(0);
        x.skipping(0);
        x.bestSkip();
        c.due("count(1) after the rank problem's calls", x.count(1), 0);
        x.situation(1, 1, 5, 5);
        x.recalls(1, 1, 5, 5);
        x.observes(1, 1, 5, 5);
        x.choosesLevel(1, 1, 5, 0);
        x.valueThreshold(1, 1, 5);
        x.fixed(0);
        x.bestFixed();
        x.recallGain();
        x.price(true);
        x.price(false);
        c.due("count(1) after the value problem's calls", x.count(1), 0);
        x.denominator();
        x.simulateRanks(1, 0);
        x.simulateValues(1, 0);
        x.digest();
        c.due("undo()", x.undo(), STATE);
        x.setCount(0, 4);
        x.setCount(0, 3);
        x.undo();
        c.due("undo() is no change", x.undo(), 0);
        c.due("parameter(0)", x.parameter(0), 5);
    }

    private static void changesRecordAllParameters() {
        c.sentence(0, "Each change records the state before it: all parameters.");
        Map<String, ToLongFunction<StoppingPlanner>> calls = calls();
        calls.put("load()", x -> Checks.answerToText(x, "n1;k1;c1;p1;v1 1 1 1 1;w0 0 10 0 0;r1 1;"));
        for (int at = 0; at <= 7; at++) {
            int which = at;
            calls.put("setCount " + at, x -> x.setCount(which % 3, 1));
            calls.put("setPayoff " + at, x -> x.setPayoff(1 + which % 7, 55));
            calls.put("setLevel " + at, x -> x.setLevel(which % 5, 66));
            calls.put("setRecall " + at, x -> x.setRecall(1 + which % 2, 10));
            calls.put("shiftWeight " + at, x -> x.shiftWeight(4, which % 5, 3));
        }
        calls.forEach((name, call) -> {
            StoppingPlanner x = Checks.planner("n6;k2;c9;p7 6 5 4 3 2 1;v11 12 13 14 15;w3 0 2 1 4;r8 7;");
            StoppingPlanner untouched = Checks.planner("n6;k2;c9;p7 6 5 4 3 2 1;v11 12 13 14 15;w3 0 2 1 4;r8 7;");
            c.due(name + " succeeds", call.applyAsLong(x) >= 0, true);
            c.due("undo() of " + name, x.undo(), 1);
            sameParameters("undo() of " + name, x, untouched);
            c.due("digest() after undo() of " + name, valuesOf(x), valuesOf(untouched));
            c.due("undo() of the load() before", x.undo(), 0);
            sameParameters("undo() of the load() before", x, new StoppingPlanner());
        });
    }

    private static void sameParameters(String call, StoppingPlanner x, StoppingPlanner y) {
        for (int what = 0; what <= 21; what++) {
            c.due("parameter(" + what + ") after " + call, x.parameter(what), y.parameter(what));
        }
    }

    /** Something of what depends on the parameters alone: solutions that were kept too long would show here. */
    private static long valuesOf(StoppingPlanner x) {
        int k = x.parameter(1);
        long h = x.rankValue(1, k);
        h = 31 * h + x.rankExpectation(0);
        h = 31 * h + x.skipping(1);
        h = 31 * h + x.situation(1, k, 5, 5);
        h = 31 * h + x.fixed(12);
        return 31 * h + x.recallGain();
    }

    // ---- at most 8 states

    private static void atMostEightStates() {
        c.sentence(0, "At most 8 recorded states are remembered:");
        for (int changes = 0; changes <= 20; changes++) {
            StoppingPlanner x = new StoppingPlanner();
            for (int change = 1; change <= changes; change++) {
                x.setPayoff(2, change);
            }
            int remembered = Math.min(8, changes);
            c.due("count(1) after " + changes, x.count(1), remembered);
            for (int left = remembered - 1; left >= 0; left--) {
                c.due("undo() after " + changes, x.undo(), left);
                c.due("count(1)", x.count(1), left);
            }
            c.due("undo() after " + changes + ", once more", x.undo(), STATE);
        }
    }

    private static void oldestIsDropped() {
        c.sentence(0, "when one more is recorded, the oldest one is dropped; undo restores the latest one and removes"
            + " it.");
        for (int changes = 1; changes <= 20; changes++) {
            StoppingPlanner x = new StoppingPlanner();
            for (int change = 1; change <= changes; change++) {
                x.setPayoff(2, change);
            }
            for (int state = changes - 1; state >= Math.max(0, changes - 8); state--) {
                x.undo();
                c.due("parameter(4) of state " + state + " of " + changes, x.parameter(4), state);
            }
            c.due("undo() beyond the oldest one", x.undo(), STATE);
            c.due("parameter(4)", x.parameter(4), Math.max(0, changes - 8));
        }
        // A state that was removed makes room for another one.
        StoppingPlanner x = new StoppingPlanner();
        for (int change = 1; change <= 8; change++) {
            x.setCount(2, change);
        }
        c.due("undo()", x.undo(), 7);
        x.setCount(2, 20);
        c.due("count(1)", x.count(1), 8);
        int[] states = {7, 6, 5, 4, 3, 2, 1, 0};
        for (int state : states) {
            x.undo();
            c.due("parameter(2)", x.parameter(2), state);
        }
    }

    private static void refusedChangesDropNothing() {
        c.sentence(0, "A call that returns an error code changes nothing.");
        StoppingPlanner x = new StoppingPlanner();
        for (int change = 1; change <= 8; change++) {
            x.setCount(2, change);
        }
        x.setCount(2, 21);
        x.setCount(3, 1);
        x.setPayoff(0, 1);
        x.setPayoff(1, 100);
        x.setLevel(5, 1);
        x.setLevel(0, -1);
        x.setRecall(3, 1);
        x.setRecall(1, 11);
        x.shiftWeight(5, 0, 0);
        x.shiftWeight(0, 5, 0);
        x.shiftWeight(0, 1, 3);
        Checks.typeText(x, "c7;c21;");
        c.due("load()", x.load(), -14);
        c.due("count(1)", x.count(1), 8);
        c.due("parameter(2)", x.parameter(2), 8);
        for (int state = 7; state >= 0; state--) {
            c.due("undo()", x.undo(), state);
            c.due("parameter(2)", x.parameter(2), state);
        }
    }

    // ---- errors

    private static void codes() {
        c.sentence(0, "The error codes are BAD (-1: an argument is out of its range), STATE (-2: the call is not"
            + " possible now, as the method says) and FULL (-3: there is no room).");
        c.due("BAD", StoppingPlanner.BAD, -1);
        c.due("STATE", StoppingPlanner.STATE, -2);
        c.due("FULL", StoppingPlanner.FULL, -3);
        StoppingPlanner x = new StoppingPlanner();
        c.due("setCount(0, 8)", x.setCount(0, 8), -1);
        c.due("undo()", x.undo(), -2);
        for (int size = 1; size <= 60; size++) {
            x.type(32);
        }
        c.due("type(32)", x.type(32), -3);
    }

    private static void firstCodeIsReturned() {
        c.sentence(0, "If several of them apply to a call, the first one in this order is returned.");
        StoppingPlanner x = new StoppingPlanner();
        for (int size = 1; size <= 60; size++) {
            x.type('n');
        }
        c.due("type(126) into a full text", x.type(126), FULL);
        c.due("type(32) into a full text", x.type(32), FULL);
        c.due("type(127) into a full text", x.type(127), BAD);
        c.due("type(31) into a full text", x.type(31), BAD);
        c.due("type(MIN) into a full text", x.type(Integer.MIN_VALUE), BAD);
        c.due("type(MAX) into a full text", x.type(Integer.MAX_VALUE), BAD);
    }

    private static void refusedCallsChangeNothing() {
        c.sentence(0, "A call that returns an error code changes nothing.");
        Map<String, ToLongFunction<StoppingPlanner>> calls = refusedChanges();
        calls.putAll(refusedQuestions());
        calls.forEach((name, call) -> {
            StoppingPlanner x = used();
            StoppingPlanner untouched = used();
            long answer = call.applyAsLong(x);
            c.due(name + " is refused", answer == BAD || answer == BAD_FRACTION, true);
            sameEverything(name, x, untouched);
        });
        StoppingPlanner x = fullText();
        c.due("type(65)", x.type(65), FULL);
        c.due("type(65)", x.type(65), FULL);
        sameEverything("type(65) into a full text", x, fullText());
        x = new StoppingPlanner();
        c.due("undo()", x.undo(), STATE);
        c.due("undo()", x.undo(), STATE);
        sameEverything("undo() without a state", x, new StoppingPlanner());
    }

    /** A planner with a text that has a fault, recorded states, a denominator, and no room for one more choice. */
    private static StoppingPlanner used() {
        StoppingPlanner x = new StoppingPlanner();
        x.setCount(1, 3);
        x.setRecall(2, 4);
        x.shiftWeight(0, 3, 1);
        x.setPayoff(2, 50);
        Checks.typeText(x, "n4;k9;");
        x.load();
        x.worth(2, 1);
        return x;
    }

    private static StoppingPlanner fullText() {
        StoppingPlanner x = used();
        Checks.typeText(x, "n4;" + " ".repeat(56) + ";");
        return x;
    }

    private static Map<String, ToLongFunction<StoppingPlanner>> refusedChanges() {
        Map<String, ToLongFunction<StoppingPlanner>> calls = calls();
        for (int wrong : new int[] {Integer.MIN_VALUE, -1, 127, Integer.MAX_VALUE}) {
            calls.put("type(" + wrong + ")", x -> x.type(wrong));
            calls.put("setCount(" + wrong + ", 1)", x -> x.setCount(wrong, 1));
            calls.put("setCount(0, " + wrong + ")", x -> x.setCount(0, wrong));
            calls.put("setCount(1, " + wrong + ")", x -> x.setCount(1, wrong));
            calls.put("setCount(2, " + wrong + ")", x -> x.setCount(2, wrong));
            calls.put("setPayoff(" + wrong + ", 1)", x -> x.setPayoff(wrong, 1));
            calls.put("setPayoff(1, " + wrong + ")", x -> x.setPayoff(1, wrong));
            calls.put("setLevel(" + wrong + ", 1)", x -> x.setLevel(wrong, 1));
            calls.put("setLevel(1, " + wrong + ")", x -> x.setLevel(1, wrong));
            calls.put("setRecall(" + wrong + ", 1)", x -> x.setRecall(wrong, 1));
            calls.put("setRecall(1, " + wrong + ")", x -> x.setRecall(1, wrong));
            calls.put("shiftWeight(" + wrong + ", 1, 1)", x -> x.shiftWeight(wrong, 1, 1));
            calls.put("shiftWeight(1, " + wrong + ", 1)", x -> x.shiftWeight(1, wrong, 1));
            calls.put("shiftWeight(1, 2, " + wrong + ")", x -> x.shiftWeight(1, 2, wrong));
        }
        calls.put("type(31)", x -> x.type(31));
        calls.put("setCount(0, 0)", x -> x.setCount(0, 0));
        calls.put("setCount(0, 8)", x -> x.setCount(0, 8));
        calls.put("setCount(1, 0)", x -> x.setCount(1, 0));
        calls.put("setCount(1, 4)", x -> x.setCount(1, 4));
        calls.put("setCount(2, 21)", x -> x.setCount(2, 21));
        calls.put("setCount(3, 1)", x -> x.setCount(3, 1));
        calls.put("setPayoff(0, 1)", x -> x.setPayoff(0, 1));
        calls.put("setPayoff(8, 1)", x -> x.setPayoff(8, 1));
        calls.put("setPayoff(7, 100)", x -> x.setPayoff(7, 100));
        calls.put("setLevel(5, 1)", x -> x.setLevel(5, 1));
        calls.put("setLevel(4, 100)", x -> x.setLevel(4, 100));
        calls.put("setRecall(0, 1)", x -> x.setRecall(0, 1));
        calls.put("setRecall(3, 1)", x -> x.setRecall(3, 1));
        calls.put("setRecall(2, 11)", x -> x.setRecall(2, 11));
        calls.put("shiftWeight(5, 0, 1)", x -> x.shiftWeight(5, 0, 1));
        calls.put("shiftWeight(0, 5, 1)", x -> x.shiftWeight(0, 5, 1));
        calls.put("shiftWeight(0, 1, 2) of 1", x -> x.shiftWeight(0, 1, 2));
        return calls;
    }

    private static Map<String, ToLongFunction<StoppingPlanner>> refusedQuestions() {
        Map<String, ToLongFunction<StoppingPlanner>> calls = calls();
        calls.put("parameter(22)", x -> x.parameter(22));
        calls.put("worth(0, 1)", x -> x.worth(0, 1));
        calls.put("worth(3, 4)", x -> x.worth(3, 4));
        calls.put("rankValue(0, 1)", x -> x.rankValue(0, 1));
        calls.put("rankValue(7, 1)", x -> x.rankValue(7, 1));
        calls.put("choosesRank(1, 0, 1)", x -> x.choosesRank(1, 0, 1));
        calls.put("rankThreshold(6, 1)", x -> x.rankThreshold(6, 1));
        calls.put("rankExpectation(3)", x -> x.rankExpectation(3));
        calls.put("skipping(6)", x -> x.skipping(6));
        calls.put("situation(7, 1, 5, 5)", x -> x.situation(7, 1, 5, 5));
        calls.put("situation(1, 1, 6, 5)", x -> x.situation(1, 1, 6, 5));
        calls.put("recalls(1, 4, 5, 5)", x -> x.recalls(1, 4, 5, 5));
        calls.put("observes(1, 1, 5, 6)", x -> x.observes(1, 1, 5, 6));
        calls.put("choosesLevel(1, 1, 5, 5)", x -> x.choosesLevel(1, 1, 5, 5));
        calls.put("valueThreshold(6, 1, 5)", x -> x.valueThreshold(6, 1, 5));
        calls.put("fixed(100)", x -> x.fixed(100));
        calls.put("price(true) with 3 choices", x -> x.price(true));
        calls.put("price(false) with 3 choices", x -> x.price(false));
        calls.put("simulateRanks(1, 3)", x -> x.simulateRanks(1, 3));
        calls.put("simulateValues(1, 5)", x -> x.simulateValues(1, 5));
        calls.put("count(4)", x -> x.count(4));
        return calls;
    }

    /** Everything that can be asked, and at last what undo brings back. */
    private static void sameEverything(String call, StoppingPlanner x, StoppingPlanner y) {
        c.due("denominator() after " + call, x.denominator(), y.denominator());
        c.due("faultKind() after " + call, x.faultKind(), y.faultKind());
        for (int what = 0; what <= 3; what++) {
            c.due("count(" + what + ") after " + call, x.count(what), y.count(what));
        }
        sameParameters(call, x, y);
        c.due("digest() after " + call, x.digest(), y.digest());
        c.due("valuesOf() after " + call, valuesOf(x), valuesOf(y));
        while (y.count(1) > 0) {
            c.due("undo() after " + call, x.undo(), y.undo());
            sameParameters(call + " and undo()", x, y);
        }
        c.due("load() after " + call, x.load(), y.load());
        c.due("faultKind() and load() after " + call, x.faultKind(), y.faultKind());
        sameParameters(call + " and load()", x, y);
        c.due("clearText() after " + call, x.clearText(), y.clearText());
    }

    private static void noneIsNoCode() {
        c.sentence(0, "NONE (-9) is no error code; it means that there is no such thing, and is returned only if no"
            + " error code applies.");
        c.due("NONE", NONE, -9);
        StoppingPlanner x = Checks.planner("v0 0 0 0 0;");
        c.due("valueThreshold(0, 1, 5)", x.valueThreshold(0, 1, 5), BAD);
        c.due("valueThreshold(6, 1, 5)", x.valueThreshold(6, 1, 5), BAD);
        c.due("valueThreshold(1, 0, 5)", x.valueThreshold(1, 0, 5), BAD);
        c.due("valueThreshold(1, 2, 5)", x.valueThreshold(1, 2, 5), BAD);
        c.due("valueThreshold(1, 1, 6)", x.valueThreshold(1, 1, 6), BAD);
        c.due("valueThreshold(1, 1, -9)", x.valueThreshold(1, 1, -9), BAD);
    }

    private static void badFraction() {
        c.sentence(0, "Fractions can be negative; a method that returns a fraction returns BAD_FRACTION instead of"
            + " BAD.");
        c.due("BAD_FRACTION", BAD_FRACTION, -4000000000000000000L);
        StoppingPlanner x = Checks.planner("c1;p0;");
        // The third candidate is observed with the chance 1 / 2, the fourth one with 1 / 3, the fifth one with 1 / 4.
        c.fraction("skipping(1), a fraction and no error", x, x.skipping(1), -37, 12);
        x = Checks.planner("n1;k3;c1;");
        c.fraction("skipping(1), a fraction and no error", x, x.skipping(1), -1, 1);
        c.fraction("fixed(41), a fraction and no error", x, x.fixed(41), -1, 1);
        c.due("worth(2, 1)", x.worth(2, 1), BAD_FRACTION);
        c.due("rankValue(3, 1)", x.rankValue(3, 1), BAD_FRACTION);
        c.due("rankExpectation(-1)", x.rankExpectation(-1), BAD_FRACTION);
        c.due("skipping(2)", x.skipping(2), BAD_FRACTION);
        c.due("situation(3, 1, 5, 5)", x.situation(3, 1, 5, 5), BAD_FRACTION);
        c.due("fixed(-1)", x.fixed(-1), BAD_FRACTION);
        c.due("price(true)", x.price(true), BAD_FRACTION);
        c.due("price(false)", x.price(false), BAD_FRACTION);
    }

    // ---- promise 31: undo

    private static void undoAnswers() {
        c.sentence(31, "Returns how many states are still remembered; STATE if there is none.");
        StoppingPlanner x = new StoppingPlanner();
        c.due("undo()", x.undo(), STATE);
        x.setLevel(0, 1);
        c.due("undo() of the only state", x.undo(), 0);
        c.due("undo()", x.undo(), STATE);
        c.due("undo()", x.undo(), STATE);
        x.setLevel(0, 1);
        x.setLevel(0, 2);
        c.due("undo() of two states", x.undo(), 1);
        c.due("undo() of one state", x.undo(), 0);
        c.due("undo()", x.undo(), STATE);
        for (int change = 1; change <= 9; change++) {
            x.setLevel(0, change);
        }
        c.due("undo() of eight states", x.undo(), 7);
    }

    private static void undoRestores() {
        c.sentence(31, "Restores the latest remembered state, and removes it.");
        StoppingPlanner x = new StoppingPlanner();
        x.setCount(0, 1);
        long one = valuesOf(x);
        x.setCount(0, 7);
        x.setCount(1, 3);
        c.due("worth(7, 7)", x.worth(7, 7), 0);
        c.due("undo()", x.undo(), 2);
        c.due("rankValue(1, 3): k is 1 again", x.rankValue(1, 3), BAD_FRACTION);
        c.due("undo()", x.undo(), 1);
        c.due("worth(2, 1): n is 1 again", x.worth(2, 1), BAD_FRACTION);
        c.due("values for one candidate", valuesOf(x), one);
        c.due("undo()", x.undo(), 0);
        c.due("values for five candidates", valuesOf(x), valuesOf(new StoppingPlanner()));
        // A state is that of the parameters; text, fault and denominator are none.
        Checks.typeText(x, "n7;");
        x.load();
        Checks.typeText(x, "n8");
        x.load();
        x.fixed(30);
        long denominator = x.denominator();
        c.due("undo()", x.undo(), 0);
        c.due("parameter(0)", x.parameter(0), 5);
        c.due("count(0)", x.count(0), 2);
        c.due("faultKind()", x.faultKind(), 2);
        c.due("denominator()", x.denominator(), denominator);
    }
}
