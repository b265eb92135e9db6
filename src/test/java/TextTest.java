/** Promises 2 to 5: the text buffer, load and faultKind. */
public final class TextTest {
    private static final Checks c = new Checks("TextTest");

    public static void main(String[] args) {
        type();
        clearText();
        loadGoodTexts();
        loadFaults();
        loadChangesNothingWithAFault();
        faultKind();
        c.end();
    }

    private static void type() {
        c.promise(2);
        StoppingPlanner x = new StoppingPlanner();
        c.due("type(31)", x.type(31), StoppingPlanner.BAD);
        c.due("type(127)", x.type(127), StoppingPlanner.BAD);
        c.due("type(-1)", x.type(-1), StoppingPlanner.BAD);
        c.due("type(MIN)", x.type(Integer.MIN_VALUE), StoppingPlanner.BAD);
        c.due("type(MAX)", x.type(Integer.MAX_VALUE), StoppingPlanner.BAD);
        c.due("type(32)", x.type(32), 1);
        c.due("type(126)", x.type(126), 2);
        for (int size = 3; size <= 60; size++) {
            c.due("type(65)", x.type(65), size);
        }
        c.due("type(65)", x.type(65), StoppingPlanner.FULL);
        c.due("type(127)", x.type(127), StoppingPlanner.BAD);
        c.due("type(31)", x.type(31), StoppingPlanner.BAD);
        c.due("count(0)", x.count(0), 60);
    }

    private static void clearText() {
        c.promise(3);
        StoppingPlanner x = new StoppingPlanner();
        c.due("clearText()", x.clearText(), 0);
        Checks.typeText(x, "n3;");
        c.due("clearText()", x.clearText(), 3);
        c.due("clearText()", x.clearText(), 0);
        c.due("load()", x.load(), 0);
        c.due("parameter(0)", x.parameter(0), 5);
        for (int size = 1; size <= 60; size++) {
            x.type('n');
        }
        c.due("clearText()", x.clearText(), 60);
        c.due("type(65)", x.type(65), 1);
        c.due("count(1)", x.count(1), 1);
    }

    private static void good(String text, int items, int[][] wanted) {
        StoppingPlanner x = new StoppingPlanner();
        for (int rank = 1; rank <= 7; rank++) {
            x.setPayoff(rank, 20 + rank);
        }
        int[] want = new int[22];
        for (int what = 0; what < 22; what++) {
            want[what] = x.parameter(what);
        }
        for (int[] pair : wanted) {
            want[pair[0]] = pair[1];
        }
        Checks.typeText(x, text);
        c.due("load() of '" + text + "'", x.load(), items);
        c.due("faultKind() of '" + text + "'", x.faultKind(), 0);
        c.due("count(0) of '" + text + "'", x.count(0), text.length());
        c.due("count(1) of '" + text + "'", x.count(1), 8);
        for (int what = 0; what < 22; what++) {
            c.due("parameter(" + what + ") of '" + text + "'", x.parameter(what), want[what]);
        }
    }

    private static void loadGoodTexts() {
        c.promise(4);
        good("", 0, new int[][] {});
        good("    ", 0, new int[][] {});
        good("n1;", 1, new int[][] {{0, 1}});
        good("n7;", 1, new int[][] {{0, 7}});
        good("n07;k03;c00;", 3, new int[][] {{0, 7}, {1, 3}, {2, 0}});
        good("k1;c20;", 2, new int[][] {{1, 1}, {2, 20}});
        good("  n  4  ;  k 2;", 2, new int[][] {{0, 4}, {1, 2}});
        good("n1;n2;n3;", 3, new int[][] {{0, 3}});
        good("p5;", 1, new int[][] {{3, 5}, {4, 0}, {5, 0}, {6, 0}, {7, 0}, {8, 0}, {9, 0}});
        good("p99 0 98;", 1, new int[][] {{3, 99}, {4, 0}, {5, 98}, {6, 0}, {7, 0}, {8, 0}, {9, 0}});
        good("p1 2 3 4 5 6 7;", 1,
            new int[][] {{3, 1}, {4, 2}, {5, 3}, {6, 4}, {7, 5}, {8, 6}, {9, 7}});
        good("p1 2 3;p4;", 2, new int[][] {{3, 4}, {4, 0}, {5, 0}, {6, 0}, {7, 0}, {8, 0}, {9, 0}});
        good("p4;p1 2 3;", 2, new int[][] {{3, 1}, {4, 2}, {5, 3}, {6, 0}, {7, 0}, {8, 0}, {9, 0}});
        good("v99 0 1 2 3;", 1, new int[][] {{10, 99}, {11, 0}, {12, 1}, {13, 2}, {14, 3}});
        good("w10 0 0 0 0;", 1, new int[][] {{15, 10}, {16, 0}, {17, 0}, {18, 0}, {19, 0}});
        good("w1 2 3 4 0;w00 01 02 03 04;", 2, new int[][] {{15, 0}, {16, 1}, {17, 2}, {18, 3}, {19, 4}});
        good("r10 0;", 1, new int[][] {{20, 10}, {21, 0}});
        good("r0   10 ;", 1, new int[][] {{20, 0}, {21, 10}});
    }

    private static void fault(String text, int position, int kind) {
        StoppingPlanner x = new StoppingPlanner();
        Checks.typeText(x, text);
        c.promise(4);
        c.due("load() of '" + text + "'", x.load(), -10 - position);
        c.promise(5);
        c.due("faultKind() of '" + text + "'", x.faultKind(), kind);
        c.promise(4);
        c.due("count(1) of '" + text + "'", x.count(1), 0);
        c.due("count(0) of '" + text + "'", x.count(0), text.length());
    }

    private static void loadFaults() {
        // a character that cannot stand at its place, or the end within an item
        fault("x", 0, 1);
        fault("N1;", 0, 1);
        fault(";", 0, 1);
        fault("  ;", 2, 1);
        fault("n1;;", 3, 1);
        fault("5", 0, 1);
        fault("n1; 5;", 4, 1);
        fault("n", 1, 1);
        fault("n  ", 3, 1);
        fault("n5", 2, 1);
        fault("n5  ", 4, 1);
        fault("n5k", 2, 1);
        fault("n5,", 2, 1);
        fault("n-1;", 1, 1);
        fault("nk", 1, 1);
        fault("c123;", 3, 1);
        fault("c000;", 3, 1);
        fault("c999;", 3, 1);
        fault("n5 123;", 5, 1);
        fault("p1 2 3 4 5 6 7 123", 17, 1);
        fault("w2 2 2 2 2", 10, 1);
        fault("p5 6:", 4, 1);
        fault("n1~", 2, 1);
        // a number that is out of range, or a number too many
        fault("n0;", 1, 2);
        fault("n8;", 1, 2);
        fault("k0;", 1, 2);
        fault("k4;", 1, 2);
        fault("c21;", 1, 2);
        fault("c21", 1, 2);
        fault("c21x", 1, 2);
        fault("n 08 ;", 2, 2);
        fault("n5 1;", 3, 2);
        fault("n5 1", 3, 2);
        fault("n5 99;", 3, 2);
        fault("n9 1;", 1, 2);
        fault("p1 2 3 4 5 6 7 8;", 15, 2);
        fault("p1 2 3 4 5 6 7 8", 15, 2);
        fault("v1 2 3 4 5 6;", 11, 2);
        fault("w11 0 0 0 0;", 1, 2);
        fault("w0 11 0 0 0;", 3, 2);
        fault("w0 0 11 0 0;", 5, 2);
        fault("w0 0 0 11 0;", 7, 2);
        fault("w0 0 0 0 11;", 9, 2);
        fault("k1 1;", 3, 2);
        fault("c1 1;", 3, 2);
        fault("w2 2 2 2 2 0;", 11, 2);
        fault("r11 0;", 1, 2);
        fault("r0 11;", 3, 2);
        fault("r1 2 3;", 5, 2);
        // a semicolon too early
        fault("n;", 1, 3);
        fault("n  ;", 3, 3);
        fault("k;", 1, 3);
        fault("c;", 1, 3);
        fault("p;", 1, 3);
        fault("v;", 1, 3);
        fault("v1 2 3 4;", 8, 3);
        fault("w2 2 2 2;", 8, 3);
        fault("w10;", 3, 3);
        fault("w2 2 2 2 1;", 10, 3);
        fault("w2 2 2 2 3;", 10, 3);
        fault("w10 10 10 10 10 ;", 16, 3);
        fault("r;", 1, 3);
        fault("r5;", 2, 3);
        fault("n3;k2;r5 ;", 9, 3);
        String blanks = "                                                            ";
        fault(blanks.substring(0, 59) + "n", 60, 1);
        fault(blanks.substring(0, 58) + "n5", 60, 1);
        fault(blanks.substring(0, 58) + "n9", 59, 2);
        fault(blanks.substring(0, 58) + "n;", 59, 3);
    }

    private static void loadChangesNothingWithAFault() {
        c.promise(4);
        StoppingPlanner x = new StoppingPlanner();
        Checks.typeText(x, "n3;k2;p1 2 3;w0 0 0 0 10;r1 1;w10 0 0 0 1;");
        c.due("load()", x.load(), -51);
        int[] want = {5, 1, 0, 99, 0, 0, 0, 0, 0, 0, 0, 10, 20, 30, 40, 2, 2, 2, 2, 2, 0, 0};
        for (int what = 0; what < want.length; what++) {
            c.due("parameter(" + what + ")", x.parameter(what), want[what]);
        }
        Checks.typeText(x, "n3;");
        c.due("load()", x.load(), 1);
        c.due("load() once more", x.load(), 1);
        c.due("count(1)", x.count(1), 2);
        c.due("rankThreshold(3, 1)", x.rankThreshold(3, 1), 3);
    }

    private static void faultKind() {
        c.promise(5);
        StoppingPlanner x = new StoppingPlanner();
        c.due("faultKind()", x.faultKind(), 0);
        Checks.typeText(x, "n8;");
        c.due("faultKind() before load()", x.faultKind(), 0);
        x.load();
        c.due("faultKind()", x.faultKind(), 2);
        x.clearText();
        x.setCount(0, 3);
        x.undo();
        c.due("faultKind()", x.faultKind(), 2);
        Checks.typeText(x, "n;");
        x.load();
        c.due("faultKind()", x.faultKind(), 3);
        Checks.typeText(x, "n");
        x.load();
        c.due("faultKind()", x.faultKind(), 1);
        x.clearText();
        x.load();
        c.due("faultKind()", x.faultKind(), 0);
    }
}
