import java.io.IOException;
import java.lang.reflect.InvocationTargetException;
import java.lang.reflect.Method;
import java.lang.reflect.Modifier;
import java.math.BigInteger;
import java.nio.file.DirectoryStream;
import java.nio.file.Files;
import java.nio.file.Path;
import java.util.ArrayList;
import java.util.Collections;
import java.util.List;
import java.util.Set;
import java.util.TreeSet;
import java.util.regex.Matcher;
import java.util.regex.Pattern;

/** Every call that README.md shows answers as README.md says, and README.md names every test. */
public final class ReadmeTest {
    private static final Path README = Path.of("README.md");
    private static final Path TESTS = Path.of("src", "test", "java");
    private static final String NUMBER = "-?\\d+";
    private static final String NUMBERS = NUMBER + "(?:, " + NUMBER + ")*";

    private static final Pattern NEW_OBJECT =
            Pattern.compile("FormRing x = new FormRing\\(\\);(?: +// (.+))?");
    private static final Pattern CALL =
            Pattern.compile("x\\.(\\w+)\\((" + NUMBERS + ")\\); +// (" + NUMBER + "|true|false|throws \\w+)(?:: (.+))?");
    private static final Pattern FACT = Pattern.compile(
            "(the form at hand|the reduced form|the name|the matrix|form \\d+ of the ring) is \\((" + NUMBERS + ")\\)");
    private static final Pattern TEST_NAMED = Pattern.compile("^- `(\\w+)`: .+");

    private static final Set<String> shown = new TreeSet<>();
    private static FormRing x = null;
    private static int facts = 0;
    private static int wrong = 0;

    private static void complain(String what) {
        wrong++;
        System.out.println("README.md: " + what);
    }

    private static int[] numbers(String text) {
        String[] parts = text.split(", ");
        int[] answer = new int[parts.length];
        for (int k = 0; k < parts.length; k++) {
            answer[k] = Integer.parseInt(parts[k]);
        }
        return answer;
    }

    private static Method methodOf(String name, int parameters) {
        for (Method method : FormRing.class.getDeclaredMethods()) {
            if (Modifier.isPublic(method.getModifiers()) && method.getName().equals(name)
                    && method.getParameterCount() == parameters) {
                return method;
            }
        }
        return null;
    }

    private static String answer(Method method, int[] arguments) {
        Object[] boxed = new Object[arguments.length];
        for (int k = 0; k < boxed.length; k++) {
            boxed[k] = arguments[k];
        }
        try {
            return String.valueOf(method.invoke(x, boxed));
        } catch (InvocationTargetException e) {
            return "throws " + e.getCause().getClass().getSimpleName();
        } catch (IllegalAccessException e) {
            return "is not public";
        }
    }

    private static BigInteger matrixNumber(int i) {
        BigInteger size = BigInteger.ZERO;
        for (int k = 0; 32 * k < x.bits(i); k++) {
            size = size.add(BigInteger.valueOf(x.word(i, k) & 0xFFFFFFFFL).shiftLeft(32 * k));
        }
        return size.multiply(BigInteger.valueOf(x.sign(i)));
    }

    private static String coefficient(String subject, int what) {
        switch (subject) {
            case "the form at hand":
                return String.valueOf(x.form(0, what));
            case "the reduced form":
                return String.valueOf(x.form(1, what));
            case "the name":
                return String.valueOf(x.form(2, what));
            case "the matrix":
                return String.valueOf(matrixNumber(what));
            default:
                return String.valueOf(x.ring(Integer.parseInt(subject.split(" ")[1]), what));
        }
    }

    private static String tuple(String subject) {
        List<String> parts = new ArrayList<>();
        for (int what = 0; what < (subject.equals("the matrix") ? 4 : 3); what++) {
            parts.add(coefficient(subject, what));
        }
        return String.join(", ", parts);
    }

    /** What a comment says beside the answer: every form or matrix in it must be one that can be asked for. */
    private static void checkWords(String line, String words) {
        if (words == null) {
            return;
        }
        Matcher fact = FACT.matcher(words);
        while (fact.find()) {
            facts++;
            String got = tuple(fact.group(1));
            if (!got.equals(fact.group(2))) {
                complain("\"" + line + "\": " + fact.group(1) + " is (" + got + ")");
            }
        }
        if (FACT.matcher(words).replaceAll("").indexOf('(') >= 0) {
            complain("\"" + line + "\": this test can't tell whether that is so");
        }
    }

    private static void checkCall(String line, Matcher call) {
        int[] arguments = numbers(call.group(2));
        Method method = methodOf(call.group(1), arguments.length);
        if (x == null || method == null) {
            complain("\"" + line + "\": there is no such call");
            return;
        }
        shown.add(method.getName());
        String got = answer(method, arguments);
        if (!got.equals(call.group(3))) {
            complain("\"" + line + "\": the answer is " + got);
        }
        checkWords(line, call.group(4));
    }

    private static void checkLine(String line) {
        Matcher made = NEW_OBJECT.matcher(line);
        Matcher call = CALL.matcher(line);
        if (made.matches()) {
            x = new FormRing();
            checkWords(line, made.group(1));
        } else if (call.matches()) {
            checkCall(line, call);
        } else {
            complain("\"" + line + "\": neither a new object nor a call with its answer");
        }
    }

    private static void checkExamples(List<String> lines) {
        boolean inside = false;
        for (String line : lines) {
            if (line.startsWith("```")) {
                inside = line.equals("```java");
                x = null;
            } else if (inside) {
                checkLine(line);
            }
        }
        for (Method method : FormRing.class.getDeclaredMethods()) {
            if (Modifier.isPublic(method.getModifiers()) && !shown.contains(method.getName())) {
                complain(method.getName() + " is not shown");
            }
        }
        if (facts == 0) {
            complain("no form and no matrix is told");
        }
    }

    private static Set<String> testsThere() throws IOException {
        Set<String> names = new TreeSet<>();
        try (DirectoryStream<Path> files = Files.newDirectoryStream(TESTS, "*.java")) {
            for (Path file : files) {
                names.add(file.getFileName().toString().replace(".java", ""));
            }
        }
        return names;
    }

    private static void checkTests(List<String> lines) throws IOException {
        Set<String> named = new TreeSet<>();
        for (String line : lines) {
            Matcher test = TEST_NAMED.matcher(line);
            if (test.matches()) {
                named.add(test.group(1));
            }
        }
        Set<String> there = testsThere();
        if (!named.equals(there)) {
            complain("the tests " + named + " are named, there are " + there);
        }
        if (Collections.frequency(lines, ".ci/run") != 1) {
            complain("it doesn't say that .ci/run runs the tests");
        }
    }

    public static void main(String[] args) throws IOException {
        List<String> lines = Files.readAllLines(README);
        checkExamples(lines);
        checkTests(lines);
        System.out.println(wrong == 0 ? "all is as README.md says" : wrong + " faults of README.md");
        if (wrong != 0) {
            System.exit(1);
        }
    }
}
