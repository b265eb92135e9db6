import java.io.IOException;
import java.lang.reflect.Constructor;
import java.lang.reflect.Field;
import java.lang.reflect.Method;
import java.lang.reflect.Modifier;
import java.nio.file.Files;
import java.nio.file.Path;
import java.util.Arrays;
import java.util.List;
import java.util.TreeSet;
import java.util.regex.Matcher;
import java.util.regex.Pattern;

/** The face of the class, and those rules of ../shared/LANGUAGE.md that can be seen in the text. */
public final class LanguageTest {
    private static final Path FILE = Path.of("src/main/java/StoppingPlanner.java");
    private static final List<String> FACE = List.of(
        "int type(int)", "int clearText()", "int load()", "int faultKind()", "int setCount(int,int)",
        "int setPayoff(int,int)", "int setLevel(int,int)", "int setRecall(int,int)", "int shiftWeight(int,int,int)",
        "int parameter(int)", "long worth(int,int)", "long rankValue(int,int)", "int choosesRank(int,int,int)",
        "int rankThreshold(int,int)", "long rankExpectation(int)", "long skipping(int)", "int bestSkip()",
        "long situation(int,int,int,int)", "int recalls(int,int,int,int)", "int observes(int,int,int,int)",
        "int choosesLevel(int,int,int,int)", "int valueThreshold(int,int,int)", "long fixed(int)", "int bestFixed()",
        "long recallGain()", "long price(boolean)", "long denominator()", "int simulateRanks(int,int)",
        "int simulateValues(int,int)", "int undo()", "int count(int)", "long digest()");
    private static final Checks c = new Checks("LanguageTest");

    public static void main(String[] args) throws IOException {
        c.promise(0);
        face();
        nestedClasses();
        words(Files.readString(FILE));
        methodLengths(Files.readAllLines(FILE));
        c.end();
    }

    private static String signature(Method method) {
        StringBuilder text = new StringBuilder(method.getReturnType() + " " + method.getName() + "(");
        for (Class<?> type : method.getParameterTypes()) {
            text.append(text.charAt(text.length() - 1) == '(' ? "" : ",").append(type);
        }
        return text + ")";
    }

    private static void face() {
        Class<?> type = StoppingPlanner.class;
        c.due("the class is public and final", type.getModifiers(), Modifier.PUBLIC | Modifier.FINAL);
        TreeSet<String> names = new TreeSet<>();
        TreeSet<String> publics = new TreeSet<>();
        for (Method method : type.getDeclaredMethods()) {
            if (Modifier.isPublic(method.getModifiers())) {
                publics.add(signature(method));
                names.add(method.getName());
                c.due(method + " is not static", Modifier.isStatic(method.getModifiers()), false);
            } else {
                c.due(method + " is private", Modifier.isPrivate(method.getModifiers()), true);
            }
        }
        c.due("the public methods", publics.equals(new TreeSet<>(FACE)), true);
        for (Class<?> any : type.getDeclaredClasses()) {
            for (Method method : any.getDeclaredMethods()) {
                c.due(method + " has a name of its own", names.contains(method.getName()), false);
            }
        }
        for (Method method : type.getDeclaredMethods()) {
            if (Modifier.isPrivate(method.getModifiers())) {
                c.due(method + " has a name of its own", names.contains(method.getName()), false);
            }
        }
        List<String> constants = List.of("BAD", "STATE", "FULL", "NONE", "BAD_FRACTION");
        for (Field field : type.getDeclaredFields()) {
            boolean isPublic = Modifier.isPublic(field.getModifiers());
            c.due(field + " is public", isPublic, constants.contains(field.getName()));
            c.due(field + " is private", Modifier.isPrivate(field.getModifiers()), !isPublic);
        }
        c.due("constructors", type.getDeclaredConstructors().length, 1);
        c.due("public constructors", type.getConstructors().length, 1);
        c.due("BAD", StoppingPlanner.BAD, -1);
        c.due("STATE", StoppingPlanner.STATE, -2);
        c.due("FULL", StoppingPlanner.FULL, -3);
        c.due("NONE", StoppingPlanner.NONE, -9);
        c.due("BAD_FRACTION", StoppingPlanner.BAD_FRACTION, -4000000000000000000L);
    }

    private static void nestedClasses() {
        Class<?>[] nested = StoppingPlanner.class.getDeclaredClasses();
        c.due("at most twelve classes", nested.length < 12, true);
        for (Class<?> type : nested) {
            c.due(type + " is static", Modifier.isStatic(type.getModifiers()), true);
            c.due(type + " is not public", Modifier.isPublic(type.getModifiers()), false);
            int fields = 0;
            for (Field field : type.getDeclaredFields()) {
                boolean isStatic = Modifier.isStatic(field.getModifiers());
                fields += isStatic ? 0 : 1;
                c.due(field + " is final, if static", !isStatic || Modifier.isFinal(field.getModifiers()), true);
            }
            c.due(type + " has at most twenty fields", fields <= 20, true);
            for (Constructor<?> constructor : type.getDeclaredConstructors()) {
                c.due(constructor + " has few parameters", constructor.getParameterCount() <= 7, true);
            }
            for (Method method : type.getDeclaredMethods()) {
                c.due(method + " has few parameters", method.getParameterCount() <= 7, true);
            }
        }
    }

    private static void words(String source) {
        c.due("only characters 1 to 126", source.chars().allMatch(sign -> sign == '\n' || sign >= 32 && sign < 127), true);
        String code = source.replaceAll("/\\*(?s:.)*?\\*/", "").replaceAll("//.*", "");
        String[] forbidden = {"throw", "throws", "try", "catch", "finally", "synchronized", "assert", "import",
            "package", "native", "volatile", "transient", "protected", "double", "float", "var"};
        for (String word : forbidden) {
            c.due("the word " + word, Pattern.compile("\\b" + word + "\\b").matcher(code).find(), false);
        }
        c.due("lambdas", code.contains("->"), false);
        c.due("method references", code.contains("::"), false);
        c.due("annotations", code.contains("@"), false);
        TreeSet<String> library = new TreeSet<>();
        Matcher calls = Pattern.compile("\\b(System|Math|Arrays|Integer|Long|String)\\.(\\w+)").matcher(code);
        while (calls.find()) {
            library.add(calls.group());
        }
        library.removeAll(Arrays.asList("System.arraycopy", "Math.max", "Math.min", "Math.abs"));
        c.due("other library calls, " + library, library.size(), 0);
    }

    private static void methodLengths(List<String> lines) {
        int begin = -1;
        for (int at = 0; at < lines.size(); at++) {
            String line = lines.get(at);
            c.due("the length of line " + (at + 1), line.length() <= 120, true);
            if (line.matches("( {4}| {8})[a-z].*\\) \\{")) {
                begin = at;
            } else if (line.matches(" {4}\\}| {8}\\}") && begin >= 0) {
                c.due("the method in line " + (begin + 1) + " is short", at - begin <= 60, true);
                begin = line.length() == 5 ? -1 : begin;
            }
        }
    }
}
