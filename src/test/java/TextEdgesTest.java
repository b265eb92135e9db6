/** The boundaries that the document names for the text buffer and how it is read: a test for each sentence. */
public final class TextEdgesTest {
    private static final int BAD = StoppingPlanner.BAD;
    private static final int FULL = StoppingPlanner.FULL;
    private static final String ITEMS = "n, k or c and a number (the parameter); p and one or more numbers (payoffs of"
        + " the ranks 1, 2, and so on; those of the ranks without a number become 0); v and five numbers (the values"
        + " of the levels); w and five numbers (the weights); r and two numbers (the recall chances).";
    private static final Checks c = new Checks("TextEdgesTest");

    public static void main(String[] args) {
        bufferSize();
        itemsBeginAndEnd();
        howManyNumbers();
        payoffsWithoutANumber();
        digits();
        spaces();
        spaceBetweenNumbers();
        anyNumberOfItems();
        lastItemCounts();
        firstFault();
        wrongCharacter();
        thirdDigit();
        endWithinAnItem();
        numberOutOfRange();
        numberTooMany();
        numberIsJudgedBehindIt();
        tooFewNumbers();
        wrongSumOfWeights();
        typeCodes();
        typeRefuses();
        clearTextEmpties();
        clearTextAnswers();
        loadKeepsTheText();
        loadAnswers();
        loadWithAFault();
        loadBeginsAnew();
        faultKindOfTheLatestLoad();
        faultKindAnswers();
        c.end();
    }

    private static void good(String text, int items) {
        StoppingPlanner x = new StoppingPlanner();
        c.due("load() of '" + text + "'", Checks.answerToText(x, text), items);
        c.due("faultKind() of '" + text + "'", x.faultKind(), 0);
        c.due("count(1) of '" + text + "'", x.count(1), 1);
    }

    private static void fault(String text, int position, int kind) {
        StoppingPlanner x = new StoppingPlanner();
        c.due("load() of '" + text + "'", Checks.answerToText(x, text), -10 - position);
        c.due("faultKind() of '" + text + "'", x.faultKind(), kind);
        c.due("count(1) of '" + text + "'", x.count(1), 0);
    }

    /** What a parameter is after this text. */
    private static void sets(String text, int what, int value) {
        c.due("parameter(" + what + ") after '" + text + "'", Checks.planner(text).parameter(what), value);
    }

    // ---- the description

    private static void bufferSize() {
        c.sentence(0, "The text buffer has at most 60 characters with codes from 32 to 126.");
        StoppingPlanner x = new StoppingPlanner();
        for (int code = 0; code <= 200; code++) {
            x.clearText();
            c.due("type(" + code + ")", x.type(code), code < 32 || code > 126 ? BAD : 1);
        }
        x.clearText();
        for (int size = 1; size <= 60; size++) {
            c.due("type(32)", x.type(32), size);
        }
        c.due("type(32)", x.type(32), FULL);
        c.due("count(0)", x.count(0), 60);
        c.due("load() of 60 spaces", x.load(), 0);
        // All 60 characters are read, and none more.
        String long60 = "n1;n1;n1;n1;n1;n1;n1;n1;n1;n1;n1;n1;n1;n1;n1;n1;n1;n1;n1;n4;";
        c.due("load() of 60 characters", Checks.answerToText(x, long60), 20);
        c.due("parameter(0)", x.parameter(0), 4);
        c.due("load() of 60 characters, a 61st typed", Checks.answerToText(x, long60 + "x"), 20);
        c.due("load() of 59 characters", Checks.answerToText(x, long60.substring(0, 59)), -69);
    }

    private static void itemsBeginAndEnd() {
        c.sentence(0, "It can be read as items, each of which begins with a letter and ends with a semicolon:");
        good("n1;", 1);
        fault("1;", 0, 1);
        fault("1n;", 0, 1);
        fault(";", 0, 1);
        fault("n1", 2, 1);
        fault("n1;;", 3, 1);
        fault("n1;1;", 3, 1);
        fault("n1k1;", 2, 1);
        fault("nk1;", 1, 1);
        for (int code = 32; code <= 126; code++) {
            boolean isLetter = "nkcpvwr".indexOf(code) >= 0;
            String text = (char) code + "";
            c.due("load() of '" + text + "'", Checks.answerToText(new StoppingPlanner(), text),
                code == 32 ? 0 : isLetter ? -11 : -10);
        }
    }

    private static void howManyNumbers() {
        c.sentence(0, ITEMS);
        String[] letters = {"n", "k", "c", "p", "v", "w", "r"};
        int[] least = {1, 1, 1, 1, 5, 5, 2};
        int[] most = {1, 1, 1, 7, 5, 5, 2};
        for (int at = 0; at < letters.length; at++) {
            StringBuilder text = new StringBuilder(letters[at]);
            for (int numbers = 0; numbers <= 8; numbers++) {
                String item = text + ";";
                if (numbers < least[at]) {
                    fault(item, item.length() - 1, 3);
                } else if (numbers <= most[at]) {
                    good(item, 1);
                } else {
                    // the number behind the most that can stand
                    fault(item, 2 * most[at] + 1, 2);
                }
                text.append(numbers == 0 ? "" : " ").append(letters[at].equals("w") ? 2 : 1);
            }
        }
        sets("n3;", 0, 3);
        sets("k3;", 1, 3);
        sets("c3;", 2, 3);
        for (int at = 0; at < 5; at++) {
            sets("v5 6 7 8 9;", 10 + at, 5 + at);
            sets("w0 1 2 3 4;", 15 + at, at);
        }
        sets("r3 4;", 20, 3);
        sets("r3 4;", 21, 4);
    }

    private static void payoffsWithoutANumber() {
        c.sentence(0, "p and one or more numbers (payoffs of the ranks 1, 2, and so on; those of the ranks without a"
            + " number become 0)");
        StringBuilder text = new StringBuilder("p");
        for (int numbers = 1; numbers <= 7; numbers++) {
            text.append(numbers == 1 ? "" : " ").append(20 + numbers);
            StoppingPlanner x = Checks.planner("p1 2 3 4 5 6 7;v8 9 10 11 12;c13;");
            c.due("load()", Checks.answerToText(x, text + ";"), 1);
            for (int rank = 1; rank <= 7; rank++) {
                c.due("parameter(" + (2 + rank) + ") after " + text, x.parameter(2 + rank),
                    rank > numbers ? 0 : 20 + rank);
            }
            c.due("parameter(2) after " + text, x.parameter(2), 13);
            c.due("parameter(10) after " + text, x.parameter(10), 8);
        }
        StoppingPlanner x = Checks.planner("p1 2 3 4 5 6 7;");
        c.due("load() of another item", Checks.answerToText(x, "n7;"), 1);
        c.due("parameter(9): no item p, no payoff becomes 0", x.parameter(9), 7);
    }

    private static void digits() {
        c.sentence(0, "A number has 1 to 2 digits.");
        good("c0;", 1);
        good("c00;", 1);
        good("c9;", 1);
        good("c09;", 1);
        good("c20;", 1);
        sets("c09;", 2, 9);
        sets("c7;", 2, 7);
        sets("c17;", 2, 17);
        sets("p99 09 90;", 3, 99);
        sets("p99 09 90;", 4, 9);
        sets("p99 09 90;", 5, 90);
        fault("c;", 1, 3);
        fault("c000;", 3, 1);
        fault("c0000;", 3, 1);
    }

    private static void spaces() {
        c.sentence(0, "Any number of spaces can stand before, between and behind letters, numbers and semicolons;");
        good(" n1;", 1);
        good("n 1;", 1);
        good("n1 ;", 1);
        good("n1; ", 1);
        good(" ".repeat(30) + "n" + " ".repeat(27) + "1;", 1);
        good("n1" + " ".repeat(27) + ";" + " ".repeat(27) + "k2;", 2);
        good("r1" + " ".repeat(55) + "2; ", 1);
        good("  v  1  2  3  4  5  ;  w  2  2  2  2  2  ;  ", 2);
        good(" ", 0);
        sets("  n  7  ;  k  3  ;  ", 0, 7);
        sets("  n  7  ;  k  3  ;  ", 1, 3);
        sets("v  1  2  3  4  5  ;", 14, 5);
    }

    private static void spaceBetweenNumbers() {
        c.sentence(0, "between two numbers there is at least one.");
        sets("r1 2;", 20, 1);
        sets("r1  2;", 21, 2);
        // Without a space, it is one number.
        fault("r12;", 1, 2);
        fault("r10;", 3, 3);
        sets("p12;", 3, 12);
        sets("p12;", 4, 0);
        sets("p1 2;", 4, 2);
        fault("r1,2;", 2, 1);
        fault("r1;2;", 2, 3);
        fault("c1 0;", 3, 2);
    }

    private static void anyNumberOfItems() {
        c.sentence(0, "There can be any number of items, also several with the same letter, of which the last one"
            + " counts.");
        StringBuilder text = new StringBuilder();
        for (int items = 0; items <= 20; items++) {
            good(text.toString(), items);
            text.append("c").append(items % 10).append(";");
        }
        good("n1;k1;c1;p1;v1 2 3 4 5;w2 2 2 2 2;r1 1;n2;k2;", 9);
    }

    private static void lastItemCounts() {
        c.sentence(0, "also several with the same letter, of which the last one counts.");
        sets("n1;n2;", 0, 2);
        sets("n2;n1;", 0, 1);
        sets("n2;k3;n1;", 0, 1);
        sets("c20;c0;", 2, 0);
        sets("p1 2 3;p4;", 3, 4);
        sets("p1 2 3;p4;", 4, 0);
        sets("p1 2 3;p4;", 5, 0);
        sets("p4;p1 2 3;", 5, 3);
        sets("v1 2 3 4 5;v6 7 8 9 9;", 10, 6);
        sets("w10 0 0 0 0;w0 0 0 0 10;", 15, 0);
        sets("w10 0 0 0 0;w0 0 0 0 10;", 19, 10);
        sets("r1 2;r3 4;", 20, 3);
        sets("r1 2;r3 4;", 21, 4);
        // An item that does not count must be right, too.
        fault("n8;n1;", 1, 2);
        fault("w2 2 2 2 1;w2 2 2 2 2;", 10, 3);
    }

    private static void firstFault() {
        c.sentence(0, "The text is read from left to right, and the first fault is the fault of the text:");
        fault("n8;x", 1, 2);
        fault("x;n8;", 0, 1);
        fault("n;n8;x", 1, 3);
        fault("n8 9;", 1, 2);
        fault("n1 9;", 3, 2);
        fault("n1 123;", 5, 1);
        fault("n9x", 1, 2);
        fault("n9", 1, 2);
        fault("w11 0 0 0 0;", 1, 2);
        fault("r11;", 1, 2);
        fault("v1 2 3 4 5 6 789;", 11, 2);
        fault("n1;k1;c1;w1 1 1 1 1;x", 19, 3);
    }

    private static void wrongCharacter() {
        c.sentence(0, "1 a character that cannot stand at its place");
        for (int code = 33; code <= 126; code++) {
            char sign = (char) code;
            boolean isDigit = code >= '0' && code <= '9';
            boolean isLetter = "nkcpvwr".indexOf(code) >= 0;
            if (!isLetter) {
                fault("" + sign, 0, 1);
                fault("n1;" + sign + "2;", 3, 1);
            }
            if (!isDigit && code != ';') {
                fault("n" + sign + "1;", 1, 1);
                fault("n1" + sign, 2, 1);
                fault("n1 " + sign, 3, 1);
                fault("p1 2" + sign + " 3;", 4, 1);
            }
        }
        fault("N1;", 0, 1);
        fault("n/1;", 1, 1);
        fault("n:1;", 1, 1);
        fault("n1:;", 2, 1);
    }

    private static void thirdDigit() {
        c.sentence(0, "(a third digit of a number, too, whatever the first two are)");
        fault("n001;", 3, 1);
        fault("n111;", 3, 1);
        fault("n999;", 3, 1);
        fault("p999;", 3, 1);
        fault("p12 345", 6, 1);
        fault("c1 000;", 5, 1);
        fault("p1 2 3 4 5 6 7 888;", 17, 1);
        // The first two are looked at only when they are followed by something else.
        fault("c99 9;", 1, 2);
    }

    private static void endWithinAnItem() {
        c.sentence(0, "or the end within an item; its position is that of the character, or the length of the text;");
        fault("n", 1, 1);
        fault("n   ", 4, 1);
        fault("n1", 2, 1);
        fault("n1 ", 3, 1);
        fault("n1;k", 4, 1);
        fault("p1 2 3 4 5 6 7", 14, 1);
        fault("w2 2 2 2 1", 10, 1);
        fault("w9 9 9 9 9 ", 11, 1);
        fault("r1", 2, 1);
        String text = "n1;" + " ".repeat(55) + "k1";
        fault(text, 60, 1);
        good(text.substring(0, 58), 1);
    }

    private static void numberOutOfRange() {
        c.sentence(0, "2 a number that is out of range, or a number too many in its item (with p, an eighth one); its"
            + " position is that of its first digit");
        String[] letters = {"n", "k", "c", "p"};
        int[] least = {1, 1, 0, 0};
        int[] most = {7, 3, 20, 99};
        for (int at = 0; at < letters.length; at++) {
            for (int number = 0; number <= 99; number++) {
                String text = "  " + letters[at] + " " + number + " ;";
                if (number < least[at] || number > most[at]) {
                    fault(text, 4, 2);
                } else {
                    good(text, 1);
                }
            }
        }
        for (int at = 0; at < 5; at++) {
            String[] numbers = {"0", "0", "0", "0", "0"};
            numbers[at] = "99";
            good("v" + String.join(" ", numbers) + ";", 1);
            fault("w" + String.join(" ", numbers) + ";", 1 + 2 * at, 2);
            numbers[at] = "11";
            fault("w" + String.join(" ", numbers) + ";", 1 + 2 * at, 2);
            numbers[at] = "10";
            good("w" + String.join(" ", numbers) + ";", 1);
        }
        good("r10 10;", 1);
        good("r0 0;", 1);
        fault("r11 10;", 1, 2);
        fault("r10 11;", 4, 2);
        fault("n 08;", 2, 2);
        fault("n 00;", 2, 2);
    }

    private static void numberTooMany() {
        c.sentence(0, "or a number too many in its item (with p, an eighth one);");
        fault("n1 1;", 3, 2);
        fault("k1 1;", 3, 2);
        fault("c1 1;", 3, 2);
        good("p1 2 3 4 5 6 7;", 1);
        fault("p1 2 3 4 5 6 7 8;", 15, 2);
        fault("p1 2 3 4 5 6 7   08  ;", 17, 2);
        fault("v1 2 3 4 5 6;", 11, 2);
        fault("w2 2 2 2 2 0;", 11, 2);
        fault("r1 2 3;", 5, 2);
        fault("r1 2 99;", 5, 2);
    }

    private static void numberIsJudgedBehindIt() {
        c.sentence(0, "(this is found when the number is followed by another character than a digit, or by the end);");
        fault("n8 ", 1, 2);
        fault("n8;", 1, 2);
        fault("n8n", 1, 2);
        fault("n8~", 1, 2);
        fault("n8", 1, 2);
        fault("n80", 1, 2);
        fault("n800", 3, 1);
        fault("r1 2 3", 5, 2);
        fault("r1 2 3x", 5, 2);
        fault("r1 2 30", 5, 2);
        fault("r1 2 300", 7, 1);
        // 0 is out of range, but the number goes on.
        good("n07;", 1);
    }

    private static void tooFewNumbers() {
        c.sentence(0, "3 a semicolon too early (too few numbers, or five weights whose sum is not 10); its position is"
            + " that of the semicolon.");
        String[] texts = {
            "n;", "k;", "c;", "p;", "v;", "v1;", "v1 2;", "v1 2 3;", "v1 2 3 4;", "w;", "w10;", "w5 5;", "w2 2 6;",
            "w4 2 2 2;", "r;", "r1;", "  n  ;", "  r  1  ;"};
        for (String text : texts) {
            fault(text, text.length() - 1, 3);
            fault("n1;" + text + "x", text.length() + 2, 3);
        }
        good("v1 2 3 4 5;", 1);
        good("r1 2;", 1);
    }

    private static void wrongSumOfWeights() {
        c.sentence(0, "or five weights whose sum is not 10);");
        good("w2 2 2 2 2;", 1);
        good("w10 0 0 0 0;", 1);
        good("w0 0 0 0 10;", 1);
        fault("w2 2 2 2 1;", 10, 3);
        fault("w2 2 2 2 3;", 10, 3);
        fault("w0 0 0 0 0;", 10, 3);
        fault("w0 0 0 0 9;", 10, 3);
        fault("w1 0 0 0 10 ;", 12, 3);
        fault("w10 10 10 10 10;", 15, 3);
    }

    // ---- promises 2 and 3: type and clearText

    private static void typeCodes() {
        c.sentence(2, "- `code`: its code, 32 to 126");
        StoppingPlanner x = new StoppingPlanner();
        c.range("type(code)", 32, 126, BAD, code -> {
            x.clearText();
            return x.type(code);
        });
    }

    private static void typeRefuses() {
        c.sentence(2, "Returns how many characters the text buffer has then; BAD if code is out of range; FULL if it"
            + " has 60.");
        StoppingPlanner x = new StoppingPlanner();
        c.due("type(31) into an empty text", x.type(31), BAD);
        c.due("type(127) into an empty text", x.type(127), BAD);
        for (int size = 1; size <= 59; size++) {
            c.due("type(33)", x.type(33), size);
        }
        c.due("type(34), the sixtieth one", x.type(34), 60);
        c.due("type(35), one too many", x.type(35), FULL);
        c.due("type(35), still one too many", x.type(35), FULL);
        c.due("type(200)", x.type(200), BAD);
        c.due("count(0)", x.count(0), 60);
        x.clearText();
        c.due("type(35) into an empty text", x.type(35), 1);
    }

    private static void clearTextEmpties() {
        c.sentence(3, "Empties the text buffer.");
        StoppingPlanner x = new StoppingPlanner();
        for (int size = 1; size <= 60; size++) {
            x.type('x');
        }
        c.due("type('x')", x.type('x'), FULL);
        x.clearText();
        c.due("count(0)", x.count(0), 0);
        c.due("load() of an empty text", x.load(), 0);
        c.due("type(' ')", x.type(' '), 1);
        c.due("load() of a space", x.load(), 0);
        for (int size = 2; size <= 60; size++) {
            c.due("type(' ')", x.type(' '), size);
        }
        c.due("load() of 60 spaces", x.load(), 0);
    }

    private static void clearTextAnswers() {
        c.sentence(3, "Returns how many characters it had.");
        StoppingPlanner x = new StoppingPlanner();
        c.due("clearText() of a new object", x.clearText(), 0);
        for (int size = 0; size <= 62; size++) {
            for (int character = 1; character <= size; character++) {
                x.type(32 + character);
            }
            c.due("clearText() after " + size, x.clearText(), Math.min(60, size));
            c.due("count(0)", x.count(0), 0);
            c.due("clearText() of an empty text", x.clearText(), 0);
            c.due("load() of an empty text", x.load(), 0);
        }
    }

    // ---- promises 4 and 5: load and faultKind

    private static void loadKeepsTheText() {
        c.sentence(4, "Reads the text buffer, which stays, as items, and sets the parameters that it tells.");
        StoppingPlanner x = new StoppingPlanner();
        c.due("load() of an empty text", x.load(), 0);
        Checks.typeText(x, "n7;");
        c.due("load()", x.load(), 1);
        c.due("count(0)", x.count(0), 3);
        c.due("type('k')", x.type('k'), 4);
        c.due("load()", x.load(), -14);
        c.due("count(0) after a fault", x.count(0), 4);
        x.type('2');
        x.type(';');
        c.due("load()", x.load(), 2);
        c.due("load() once more", x.load(), 2);
        c.due("parameter(0)", x.parameter(0), 7);
        c.due("parameter(1)", x.parameter(1), 2);
        int[] others = {0, 99, 0, 0, 0, 0, 0, 0, 0, 10, 20, 30, 40, 2, 2, 2, 2, 2, 0, 0};
        for (int what = 2; what <= 21; what++) {
            c.due("parameter(" + what + ")", x.parameter(what), others[what - 2]);
        }
        c.due("count(1)", x.count(1), 4);
    }

    private static void loadAnswers() {
        c.sentence(4, "Returns the number of items; -10 minus the position of the fault if there is one (then nothing"
            + " is changed).");
        good("", 0);
        good("   ", 0);
        good("n1;", 1);
        good("n1;n1;n1;n1;n1;n1;n1;n1;n1;n1;n1;n1;n1;n1;n1;n1;n1;n1;n1;n1;", 20);
        StringBuilder text = new StringBuilder();
        for (int position = 0; position < 60; position++) {
            fault(text + "x", position, 1);
            text.append(" ");
        }
        fault(text.substring(0, 59) + "n", 60, 1);
    }

    private static void loadWithAFault() {
        c.sentence(4, "(then nothing is changed).");
        String before = "n3;k2;c5;p9 8 7;v5 4 3 2 1;w0 0 10 0 0;r9 8;";
        String[] faults = {"x", "n8;", "n;", "n1;x", "n1;k1;c1;k4;", "p1;p;", "v9 9 9 9 9;v", "w10 0 0 0 0;w1 1 1 1 1;",
            "r0 0;;"};
        for (String text : faults) {
            StoppingPlanner x = Checks.planner(before);
            StoppingPlanner untouched = Checks.planner(before);
            c.fraction("worth(2, 1)", x, x.worth(2, 1), 26, 3);
            c.due("load() of " + text + " has a fault", Checks.answerToText(x, text) <= -10, true);
            c.due("denominator()", x.denominator(), 3);
            c.due("count(0)", x.count(0), text.length());
            c.due("count(1)", x.count(1), 1);
            x.clearText();
            untouched.clearText();
            c.due("digest()", x.digest(), untouched.digest());
            c.due("undo()", x.undo(), 0);
            untouched.undo();
            c.due("digest()", x.digest(), untouched.digest());
        }
    }

    private static void loadBeginsAnew() {
        c.sentence(4, "Reads the text buffer, which stays, as items, and sets the parameters that it tells.");
        String[] faults = {"x", "n", "n1", "n12", "n123", "p1 2", "p1 234", "n8", "w2 2 2 2 ;", "w2 2 2 2 1;", "v1 2 3",
            "n1;k1;r9 "};
        for (String fault : faults) {
            StoppingPlanner x = new StoppingPlanner();
            c.due("load() of " + fault, Checks.answerToText(x, fault) <= -10, true);
            c.due("load() of an empty text after " + fault, Checks.answerToText(x, ""), 0);
            c.due("load() of " + fault, Checks.answerToText(x, fault) <= -10, true);
            c.due("load() of n3; after " + fault, Checks.answerToText(x, "n3;"), 1);
            c.due("load() of " + fault, Checks.answerToText(x, fault) <= -10, true);
            c.due("load() of 5 after " + fault, Checks.answerToText(x, "5"), -10);
            c.due("load() of ; after " + fault, Checks.answerToText(x, ";"), -10);
            c.due("load() of two items after " + fault, Checks.answerToText(x, "k2;r9 8;"), 2);
            int[] want = {3, 2, 0, 99, 0, 0, 0, 0, 0, 0, 0, 10, 20, 30, 40, 2, 2, 2, 2, 2, 9, 8};
            for (int what = 0; what <= 21; what++) {
                c.due("parameter(" + what + ") after " + fault, x.parameter(what), want[what]);
            }
        }
    }

    private static void faultKindOfTheLatestLoad() {
        c.sentence(5, "Returns the kind of the fault that the latest call of load() found.");
        StoppingPlanner x = new StoppingPlanner();
        String[] texts = {"x", "n8;", "n;", "n8;", "x", "n;", "", "n;", "n1;", "n1"};
        int[] kinds = {1, 2, 3, 2, 1, 3, 0, 3, 0, 1};
        for (int at = 0; at < texts.length; at++) {
            Checks.typeText(x, texts[at]);
            c.due("faultKind() before load() of '" + texts[at] + "'", x.faultKind(), at == 0 ? 0 : kinds[at - 1]);
            x.load();
            c.due("faultKind() of '" + texts[at] + "'", x.faultKind(), kinds[at]);
            c.due("faultKind() once more", x.faultKind(), kinds[at]);
        }
        x.setCount(0, 2);
        x.undo();
        x.clearText();
        c.due("faultKind() after other calls", x.faultKind(), 1);
    }

    private static void faultKindAnswers() {
        c.sentence(5, "Returns 1 to 3; 0 if it found none, or there was no such call.");
        StoppingPlanner x = new StoppingPlanner();
        c.due("faultKind() without a call", x.faultKind(), 0);
        x.type('x');
        c.due("faultKind() without a call", x.faultKind(), 0);
        x.load();
        c.due("faultKind()", x.faultKind(), 1);
        c.due("faultKind() of another new object", new StoppingPlanner().faultKind(), 0);
        x.clearText();
        x.load();
        c.due("faultKind() of an empty text", x.faultKind(), 0);
        fault("n0;", 1, 2);
        fault("n;", 1, 3);
    }
}
