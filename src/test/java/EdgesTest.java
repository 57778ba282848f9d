import java.math.BigInteger;
import java.util.ArrayList;
import java.util.List;

/**
 * One test for each sentence of the document that names a boundary: at the last value that is
 * allowed, and at the first one beyond it. What is due is written out, or follows from the
 * sentence's own words.
 */
public final class EdgesTest {
    private static final String INDEX = "throws.IndexOutOfBoundsException";
    private static final String ARGUMENT = "throws.IllegalArgumentException";
    private static final int EDGE = 1073741824;
    private static final int LEAST = Integer.MIN_VALUE;
    private static final int MOST = Integer.MAX_VALUE;
    private static final int CALLS = 512;

    // The longest ring that there is: the form behind its name has the longest way.
    private static final int[] LONGEST = {42, 925, -902};
    private static final int LONGEST_SIZE = 4706;

    // One for each reason for which a form can't be taken.
    private static final int[][] REFUSED = {
        {EDGE + 1, 65540, 1}, {-EDGE - 1, 65540, -1}, {536894084, EDGE + 1, 536847742},
        {536894084, -EDGE - 1, 536847742}, {1, 65540, EDGE + 1}, {-1, 65540, -EDGE - 1},
        {LEAST, LEAST, LEAST}, {MOST, MOST, MOST}, {0, 0, 0}, {1, 2, 1}, {0, 1, 7}, {1, 0, -1},
        {1, 0, -262144}, {1, 1, -262144}, {1, 1, 262145}, {1, 65537, 32767}, {-1, 0, -1}, {-1, 1, -1},
    };

    private static String sentence = "";
    private static int wrong = 0;

    /** An object, asked by the names of its calls, and never more often than is promised. */
    private static final class Asked {
        private final FormRing x = new FormRing();
        private int calls = 0;

        String answer(String call, int... n) {
            calls++;
            if (calls > CALLS) {
                throw new IllegalStateException("the test itself makes more than 512 calls");
            }
            try {
                return plainAnswer(call, n);
            } catch (RuntimeException e) {
                return "throws." + e.getClass().getSimpleName();
            }
        }

        private String plainAnswer(String call, int... n) {
            switch (call) {
                case "take":
                    return String.valueOf(x.take(n[0], n[1], n[2]));
                case "form":
                    return String.valueOf(x.form(n[0], n[1]));
                case "count":
                    return String.valueOf(x.count(n[0]));
                case "ring":
                    return String.valueOf(x.ring(n[0], n[1]));
                case "together":
                    return String.valueOf(x.together(n[0], n[1], n[2]));
                case "sign":
                    return String.valueOf(x.sign(n[0]));
                case "bits":
                    return String.valueOf(x.bits(n[0]));
                case "word":
                    return String.valueOf(x.word(n[0], n[1]));
                default:
                    return String.valueOf(x.residue(n[0], n[1]));
            }
        }

        Asked due(Object want, String call, int... n) {
            String got = answer(call, n);
            if (!got.equals(String.valueOf(want))) {
                StringBuilder text = new StringBuilder(call).append('(');
                for (int k = 0; k < n.length; k++) {
                    text.append(k == 0 ? "" : ", ").append(n[k]);
                }
                complain(text + ") as call " + calls + " answered " + got + ", due is " + want);
            }
            return this;
        }

        Asked dueForm(int which, int... want) {
            for (int what = 0; what < 3; what++) {
                due(want[what], "form", which, what);
            }
            return this;
        }

        Asked dueRing(int k, int... want) {
            for (int what = 0; what < 3; what++) {
                due(want[what], "ring", k, what);
            }
            return this;
        }

        Asked dueMatrix(long... want) {
            for (int i = 0; i < 4; i++) {
                dueNumber(i, BigInteger.valueOf(want[i]));
            }
            return this;
        }

        Asked dueNumber(int i, BigInteger want) {
            BigInteger size = want.abs();
            due(want.signum(), "sign", i);
            due(size.bitLength(), "bits", i);
            for (int k = 0; k < size.bitLength() / 32 + 2; k++) {
                due(size.shiftRight(32 * k).intValue(), "word", i, k);
            }
            for (int m : new int[] {1, 2, 1000003, MOST}) {
                due(want.mod(BigInteger.valueOf(m)), "residue", i, m);
            }
            return this;
        }

        /** All that can be asked of the object, but for the middle of a long ring or a long number. */
        List<String> everything() {
            List<String> answers = new ArrayList<>();
            for (int n = 0; n < 9; n++) {
                answers.add(answer("form", n / 3, n % 3));
            }
            for (int what = 0; what < 6; what++) {
                answers.add(answer("count", what));
            }
            int last = Integer.parseInt(answers.get(answers.size() - 1)) - 1;
            for (int what = 0; what < 3; what++) {
                answers.add(answer("ring", 0, what));
                answers.add(answer("ring", last, what));
            }
            answers.add(answer("together", 1, 0, 1));
            answers.add(answer("together", 4, -3, 7));
            answers.add(answer("together", LONGEST));
            for (int i = 0; i < 4; i++) {
                answers.add(answer("sign", i));
                answers.add(answer("bits", i));
                answers.add(answer("word", i, 0));
                answers.add(answer("word", i, 1));
                answers.add(answer("residue", i, MOST));
            }
            return answers;
        }
    }

    private static void complain(String what) {
        wrong++;
        System.out.println("\"" + sentence + "\": " + what);
    }

    private static Asked taken(int... form) {
        Asked x = new Asked();
        x.due(discriminant(form), "take", form);
        return x;
    }

    private static long discriminant(int... form) {
        return form[1] * (long) form[1] - 4L * form[0] * form[2];
    }

    private static void dueTaken(int... form) {
        taken(form).dueForm(0, form);
        new Asked().due(form[0] == 1 && form[1] == 0 && form[2] == 1, "together", form);
    }

    private static void dueRefused(int... form) {
        new Asked().due(ARGUMENT, "take", form).dueForm(0, 1, 0, 1).due(ARGUMENT, "together", form);
    }

    private static int[] principal(int discriminant) {
        int b = discriminant & 1;
        return new int[] {1, b, (b - discriminant) / 4};
    }

    private static boolean isDiscriminant(int d) {
        return (d & 3) < 2;
    }

    // Terms

    private static void ownMemory() {
        sentence = "All memory is its own, made once";
        Asked one = taken(195, -751, 723).due(7, "bits", 1);
        Asked other = taken(LONGEST).due(7821, "bits", 1);
        one.dueForm(2, -3, 5, 3).dueRing(5, 1, 7, -3).dueMatrix(-37, 72, -18, 35);
        other.dueForm(2, -924, 923, 42).due(1281870742, "residue", 1, MOST);
        new Asked().dueForm(0, 1, 0, 1).dueMatrix(1, 0, 0, 1);
    }

    private static void coefficients() {
        sentence = "coefficients from -1073741824 to 1073741824";
        dueTaken(EDGE, 65540, 1);
        dueRefused(EDGE + 1, 65540, 1);
        dueTaken(-EDGE, 65540, -1);
        dueRefused(-EDGE - 1, 65540, -1);
        dueTaken(536894083, EDGE, 536847742);
        dueRefused(536894084, EDGE + 1, 536847742);
        dueTaken(536894083, -EDGE, 536847742);
        dueRefused(536894084, -EDGE - 1, 536847742);
        dueTaken(1, 65540, EDGE);
        dueRefused(1, 65540, EDGE + 1);
        dueTaken(-1, 65540, -EDGE);
        dueRefused(-1, 65540, -EDGE - 1);
        // The same with a discriminant below 0.
        dueTaken(EDGE, 524287, 64);
        dueRefused(EDGE + 1, 65536, 1);
        dueTaken(536894078, EDGE, 536847747);
        dueRefused(536894078, EDGE + 1, 536847748);
        dueTaken(536894078, -EDGE, 536847747);
        dueRefused(536894078, -EDGE - 1, 536847748);
        dueTaken(64, -524287, EDGE);
        dueRefused(1, -65536, EDGE + 1);
        for (int far : new int[] {MOST, LEAST}) {
            dueRefused(far, 1, 1);
            dueRefused(1, far, 1);
            dueRefused(1, 1, far);
            dueRefused(far, far, far);
        }
    }

    private static void noSquare() {
        sentence = "a D that is no square";
        dueRefused(0, 0, 0);
        dueRefused(EDGE, EDGE, EDGE / 4);
        for (int n = 0; n <= 1024; n++) {
            dueRefused(0, n, 5);
            dueRefused(-5, -n, 0);
            dueRefused(1, n + 2, n + 1);
            dueRefused(-1, n + 2, -n - 1);
            for (int d = Math.max(2, n * n - 4); d <= Math.min(1048576, n * n + 4); d++) {
                int root = (int) Math.round(Math.sqrt(d));
                if (isDiscriminant(d) && root * root != d) {
                    taken(principal(d));
                } else if (isDiscriminant(d)) {
                    dueRefused(principal(d));
                }
            }
        }
    }

    private static void discriminants() {
        sentence = "a D .. from -1048576 to 1048576";
        dueTaken(1, 0, 262144);
        dueTaken(512, 0, 512);
        dueRefused(1, 1, 262145);
        dueRefused(1, 0, 262145);
        dueRefused(513, 0, 513);
        // 1048576 itself is a square, and the next below it that can be one is 1048573.
        dueTaken(1, 1, -262143);
        dueTaken(-262143, 1, 1);
        dueRefused(1, 0, -262144);
        dueRefused(1, 1, -262144);
        dueRefused(-262144, 1, 1);
        dueRefused(1, 0, -262145);
        dueRefused(EDGE, EDGE, -EDGE);
        dueRefused(EDGE, -EDGE, EDGE);
        // Cut to 32 bits these are -4, 5, 5, -7 and 12.
        dueRefused(1, 65536, 1);
        dueRefused(1, 65537, 32767);
        dueRefused(1, 1, EDGE - 1);
        dueRefused(2, 1, 536870913);
        dueRefused(1, 65536, -3);
    }

    private static void signOfFirst() {
        sentence = "and a above 0 if D is below 0";
        dueTaken(1, 0, 1);
        dueTaken(1, 1, 1);
        dueTaken(1, -1, 1);
        dueTaken(1, 0, 262144);
        dueRefused(-1, 0, -1);
        dueRefused(-1, 1, -1);
        dueRefused(-1, -1, -1);
        dueRefused(-1, 0, -262144);
        dueRefused(-EDGE, 524287, -64);
        dueRefused(-536894078, EDGE, -536847747);
        dueRefused(0, 0, 1);
        dueTaken(-1, 1, 1);
        dueTaken(-1, 3, -1);
        dueTaken(-1, 0, 262143);
    }

    private static void dueReduced(int... form) {
        taken(form).due(0, "count", 3).dueForm(1, form);
    }

    private static void dueNotReduced(int steps, int[] reduced, int... form) {
        taken(form).due(steps, "count", 3).dueForm(1, reduced);
    }

    private static int[] f(int a, int b, int c) {
        return new int[] {a, b, c};
    }

    private static void reducedBelow() {
        sentence = "|b| <= a <= c, and b is not below 0 if |b| = a or a = c";
        dueReduced(4, 3, 7);
        dueReduced(4, -3, 7);
        dueReduced(4, 4, 7);
        dueNotReduced(2, f(4, 4, 7), 4, -4, 7);
        dueNotReduced(2, f(4, -3, 6), 4, 5, 7);
        dueNotReduced(2, f(4, 3, 6), 4, -5, 7);
        dueReduced(5, 3, 6);
        dueReduced(5, -3, 6);
        dueReduced(5, 3, 5);
        dueReduced(5, 0, 5);
        dueNotReduced(1, f(5, 1, 5), 5, -1, 5);
        dueNotReduced(1, f(5, 3, 5), 5, -3, 5);
        dueNotReduced(1, f(5, -3, 6), 6, 3, 5);
        dueNotReduced(1, f(5, 3, 6), 6, -3, 5);
        dueReduced(5, 5, 5);
        dueNotReduced(1, f(5, 5, 5), 5, -5, 5);
        dueReduced(1, 1, 1);
        dueNotReduced(1, f(1, 1, 1), 1, -1, 1);
    }

    private static void reducedAbove() {
        sentence = "0 < b < R and R - b < 2 |a| < R + b";
        dueReduced(1, 1, -1);
        dueReduced(-1, 1, 1);
        dueReduced(2, 1, -2);
        dueNotReduced(2, f(1, 2, -1), 1, 0, -2);
        dueNotReduced(2, f(-1, 2, 1), -1, 0, 2);
        dueNotReduced(1, f(-1, 1, 1), 1, -1, -1);
        dueReduced(1, 4, -2);
        dueNotReduced(1, f(1, 1, -1), 1, 3, 1);
        dueNotReduced(1, f(-1, 1, 1), -1, 3, -1);
        dueNotReduced(2, f(1, 3, -1), 1, 1, -3);
        dueNotReduced(2, f(-1, 3, 1), -1, 1, 3);
        dueNotReduced(1, f(1, 3, -1), -3, 1, 1);
        for (int d = 5; d < 500; d++) {
            int root = (int) Math.round(Math.sqrt(d));
            if (isDiscriminant(d) && root * root != d) {
                everyMiddle(d);
            }
        }
    }

    private static void everyMiddle(int d) {
        for (int b = -24; b <= 24; b++) {
            int product = (b * b - d) / 4;
            for (int a = -40; a <= 40; a++) {
                if ((b - d) % 2 == 0 && a != 0 && product % a == 0) {
                    boolean reduced = reducedByItsWords(a, b, d);
                    boolean got = taken(a, b, product / a).answer("count", 3).equals("0");
                    if (got != reduced) {
                        complain("(" + a + ", " + b + ", " + product / a + ") is taken as " + got);
                    }
                }
            }
        }
    }

    private static boolean reducedByItsWords(int a, int b, int d) {
        double r = Math.sqrt(d);
        return 0 < b && b < r && r - b < 2 * Math.abs(a) && 2 * Math.abs(a) < r + b;
    }

    private static void dueWay(int[] form, int toReduced, int way, int[] reduced, int[] name, long... matrix) {
        taken(form).due(toReduced, "count", 3).due(way, "count", 4).dueForm(1, reduced).dueForm(2, name)
                .dueMatrix(matrix);
    }

    private static void nextNearZero() {
        sentence = "if D is below 0 or |c| above R, that from 1 - |c| to |c|";
        dueWay(f(9, 4, 4), 1, 1, f(4, 4, 9), f(4, 4, 9), 1, 1, -1, 0);
        dueWay(f(9, -4, 4), 1, 1, f(4, 4, 9), f(4, 4, 9), 0, 1, -1, 0);
        dueWay(f(6, 4, 5), 1, 1, f(5, -4, 6), f(5, -4, 6), 0, 1, -1, 0);
        dueWay(f(975, -60, 1), 1, 1, f(1, 0, 75), f(1, 0, 75), -30, 1, -1, 0);
        dueWay(f(458, -58, 2), 1, 1, f(2, 2, 38), f(2, 2, 38), -14, 1, -1, 0);
        // Through (5, 5, 1), (-5, 5, -1), (7, -6, 1) and (-7, -6, -1).
        dueWay(f(31, -25, 5), 2, 3, f(1, 1, -1), f(-1, 1, 1), 9, -4, 7, -3);
        dueWay(f(-31, -25, -5), 2, 2, f(-1, 1, 1), f(-1, 1, 1), -7, -3, -2, -1);
        dueWay(f(17, -22, 7), 2, 3, f(1, 2, -1), f(-1, 2, 1), -4, 3, -3, 2);
        dueWay(f(-17, -22, -7), 2, 2, f(-1, 2, 1), f(-1, 2, 1), 3, 2, -2, -1);
        // |c| is the first above R here.
        dueWay(f(44, -30, 5), 2, 2, f(-1, 4, 1), f(-1, 4, 1), 5, -2, 3, -1);
        dueWay(f(-44, -30, -5), 2, 3, f(1, 4, -1), f(-1, 4, 1), -23, -9, -5, -2);
    }

    private static void nextBelowRoot() {
        sentence = "otherwise the greatest below R";
        dueWay(f(898, -60, 1), 1, 2, f(1, 2, -1), f(-1, 2, 1), 57, -2, 29, -1);
        dueWay(f(-898, -60, -1), 1, 1, f(-1, 2, 1), f(-1, 2, 1), 29, 1, -1, 0);
        dueWay(f(869, -59, 1), 1, 2, f(1, 1, -1), f(-1, 1, 1), 28, -1, 29, -1);
        dueWay(f(-869, -59, -1), 1, 1, f(-1, 1, 1), f(-1, 1, 1), 29, 1, -1, 0);
        // |c| is the last below R here.
        dueWay(f(449, -60, 2), 2, 2, f(-1, 2, 1), f(-1, 2, 1), 14, -1, 15, -1);
        dueWay(f(-449, -60, -2), 2, 3, f(1, 2, -1), f(-1, 2, 1), -43, -3, -14, -1);
    }

    private static void rings() {
        sentence = "The RING of a class: .. until that comes again .. if D is below 0, the reduced form alone";
        taken(7, 0, 3).due(1, "count", 5).dueRing(0, 3, 0, 7).due(INDEX, "ring", 1, 0);
        taken(4, -3, 7).due(1, "count", 5).dueRing(0, 4, -3, 7).due(INDEX, "ring", 1, 0);
        int[][] shortest = {{-1, 1, 1}, {1, 1, -1}};
        int[][] six = {{-2, 1, 2}, {2, 3, -1}, {-1, 3, 2}, {2, 1, -2}, {-2, 3, 1}, {1, 3, -2}};
        dueRingFromEach(shortest, 5);
        dueRingFromEach(six, 17);
        taken(LONGEST).due(LONGEST_SIZE, "count", 5).dueRing(LONGEST_SIZE - 1, 41, 925, -924);
    }

    private static void dueRingFromEach(int[][] ring, int d) {
        for (int[] start : ring) {
            Asked x = taken(start).due(d, "count", 0).due(ring.length, "count", 5);
            for (int k = 0; k < ring.length; k++) {
                x.dueRing(k, ring[k]);
            }
        }
    }

    private static void names() {
        sentence = "the form of the ring with the least a, of these that with the least b";
        // (-2, 3, 1) and (-2, 1, 2) are both of the ring; either comes first on one of these ways.
        taken(-1, 1, 4).dueForm(1, -1, 3, 2).dueForm(2, -2, 1, 2);
        taken(1, 3, -2).dueForm(1, 1, 3, -2).dueForm(2, -2, 1, 2);
        taken(-2, 3, 1).dueForm(1, -2, 3, 1).dueForm(2, -2, 1, 2);
        taken(-2, 1, 2).dueForm(1, -2, 1, 2).dueForm(2, -2, 1, 2);
        // The least, not that of the least size: 1 and -1 are of this ring as well.
        taken(1, 7, -3).dueForm(2, -3, 5, 3);
        taken(4, -4, 7).dueForm(2, 4, 4, 7);
    }

    private static void ways() {
        sentence = "from it to its reduced form, and on by nexts until the name comes for the first time";
        taken(-2, 1, 2).due(0, "count", 3).due(0, "count", 4);
        taken(1, 3, -2).due(0, "count", 3).due(1, "count", 4);
        taken(2, 3, -1).due(0, "count", 3).due(5, "count", 4);
        taken(-1, 1, 4).due(2, "count", 3).due(6, "count", 4);
        taken(-31, -25, -5).due(2, "count", 3).due(2, "count", 4);
        taken(5, 3, 5).due(0, "count", 3).due(0, "count", 4);
        taken(5, -3, 5).due(1, "count", 3).due(1, "count", 4);
        taken(-924, 923, 42).due(0, "count", 3).due(0, "count", 4);
        taken(41, 925, -924).due(0, "count", 3).due(1, "count", 4);
        taken(LONGEST).due(0, "count", 3).due(LONGEST_SIZE - 1, "count", 4);
    }

    private static void matrices() {
        sentence = "THE MATRIX .. takes its name to it: .. it is (s, -q, -r, p)";
        taken(-2, 1, 2).dueMatrix(1, 0, 0, 1);
        taken(5, 3, 5).dueMatrix(1, 0, 0, 1);
        taken(1, 3, -2).dueMatrix(-1, 1, -1, 0);
        taken(2, 3, -1).dueMatrix(-32, 9, -25, 7);
        taken(-1, 1, 4).dueMatrix(-9, -14, -7, -11);
        taken(5, -3, 5).dueMatrix(0, 1, -1, 0);
        taken(1, 2, 2).dueMatrix(0, 1, -1, -1);
        taken(4, -4, 7).dueMatrix(-1, 1, 0, -1);
        taken(195, -751, 723).dueMatrix(-37, 72, -18, 35);
    }

    // Promises

    private static void newObject() {
        sentence = "FormRing(): The form (1, 0, 1) is at hand";
        new Asked().dueForm(0, 1, 0, 1).dueForm(1, 1, 0, 1).dueForm(2, 1, 0, 1);
        Asked counted = new Asked();
        int[] counts = {-4, -1, 1, 0, 0, 1};
        for (int what = 0; what < counts.length; what++) {
            counted.due(counts[what], "count", what);
        }
        new Asked().dueRing(0, 1, 0, 1).due(INDEX, "ring", 1, 0);
        new Asked().due(true, "together", 1, 0, 1).due(true, "together", 1, -65534, 1073676290)
                .due(false, "together", 1, 0, 2);
        new Asked().dueMatrix(1, 0, 0, 1);
        // Each as the very first call.
        new Asked().due(1, "sign", 3);
        new Asked().due(0, "bits", 2);
        new Asked().due(1, "word", 0, 0);
        new Asked().due(0, "residue", 1, MOST);
    }

    private static void takeRefused() {
        sentence = "it can't be taken (nothing changes)";
        int[][] hands = {{1, 0, 1}, {4, -4, 7}, {195, -751, 723}, LONGEST};
        for (int[] hand : hands) {
            List<String> want = taken(hand).everything();
            for (int[] form : REFUSED) {
                Asked fresh = taken(hand).due(ARGUMENT, "take", form);
                dueSame(want, fresh.everything());
                dueSame(want, fresh.due(ARGUMENT, "take", form).everything());
            }
        }
        Asked untaken = new Asked();
        for (int[] form : REFUSED) {
            untaken.due(ARGUMENT, "take", form);
        }
        dueSame(new Asked().everything(), untaken.everything());
    }

    private static void dueSame(List<String> want, List<String> got) {
        if (!want.equals(got)) {
            complain("answers before " + want + ", and then " + got);
        }
    }

    private static void takeTaken() {
        sentence = "A form is at hand then: its discriminant";
        // What stood of a long matrix and of a long ring must be gone.
        Asked x = taken(LONGEST).due(7821, "bits", 0);
        x.due(-4, "take", 1, 0, 1);
        dueSame(new Asked().everything(), x.everything());
        x.due(61, "take", 195, -751, 723).dueMatrix(-37, 72, -18, 35);
        x.due(61, "take", 195, -751, 723).dueMatrix(-37, 72, -18, 35);
        x.due(61, "take", -3, 5, 3).dueMatrix(1, 0, 0, 1);
    }

    private static void formRefused() {
        sentence = "another which or what";
        Asked x = taken(195, -751, 723);
        x.dueForm(0, 195, -751, 723).dueForm(1, 1, 7, -3).dueForm(2, -3, 5, 3);
        for (int bad : new int[] {-1, 3, LEAST, MOST}) {
            for (int good = 0; good < 3; good++) {
                x.due(INDEX, "form", bad, good).due(INDEX, "form", good, bad);
            }
            x.due(INDEX, "form", bad, bad);
        }
        x.dueForm(0, 195, -751, 723).dueForm(1, 1, 7, -3).dueForm(2, -3, 5, 3);
    }

    private static void countOfAnother() {
        sentence = "-1 for another what";
        Asked x = taken(195, -751, 723).due(61, "count", 0).due(6, "count", 5);
        for (int bad : new int[] {-1, 6, 7, LEAST, MOST}) {
            x.due(-1, "count", bad);
        }
    }

    private static void countOfRoot() {
        sentence = "the whole part of R (-1 if D is below 0)";
        for (int d : new int[] {-3, -4, -7, -1048575, -1048576}) {
            taken(principal(d)).due(-1, "count", 1);
        }
        taken(1, 1, -1).due(2, "count", 1);
        taken(1, 1, -262143).due(1023, "count", 1);
        for (int n = 3; n <= 1023; n++) {
            for (int d = n * n - 4; d <= n * n + 4; d++) {
                if (isDiscriminant(d) && d != n * n && d > 4) {
                    taken(principal(d)).due(d < n * n ? n - 1 : n, "count", 1);
                }
            }
        }
    }

    private static void countOfDivisor() {
        sentence = "the greatest number that goes into a, b and c";
        taken(591, 591, 591).due(591, "count", 2);
        taken(457, 457, -457).due(457, "count", 2);
        taken(512, 0, 512).due(512, "count", 2);
        taken(-362, -724, 362).due(362, "count", 2);
        taken(6, 10, 15).due(1, "count", 2);
        taken(-9, 0, 6).due(3, "count", 2);
        taken(EDGE, 524287, 64).due(1, "count", 2);
        taken(EDGE, 65540, 1).due(1, "count", 2);
    }

    private static void countOfSteps() {
        sentence = "3: how many steps ..; 4: how many the whole way has; 5: how many forms the ring has";
        taken(1, 0, 1).due(0, "count", 3).due(0, "count", 4).due(1, "count", 5);
        taken(1, -1, 1).due(1, "count", 3).due(1, "count", 4).due(1, "count", 5);
        taken(-1, 1, 1).due(0, "count", 3).due(0, "count", 4).due(2, "count", 5);
        taken(1, 1, -1).due(0, "count", 3).due(1, "count", 4).due(2, "count", 5);
        taken(1, 1, -251790).due(2, "count", 3).due(3263, "count", 4).due(LONGEST_SIZE, "count", 5);
    }

    private static void ringRefused() {
        sentence = "k isn't 0 to one less than how many it has, or another what";
        int[][] hands = {{1, 0, 1}, {5, -3, 5}, {1, 1, -1}, {195, -751, 723}, LONGEST};
        int[] sizes = {1, 1, 2, 6, LONGEST_SIZE};
        int[][] last = {{1, 0, 1}, {5, 3, 5}, {1, 1, -1}, {1, 7, -3}, {41, 925, -924}};
        int[][] first = {{1, 0, 1}, {5, 3, 5}, {-1, 1, 1}, {-3, 5, 3}, {-924, 923, 42}};
        for (int n = 0; n < hands.length; n++) {
            Asked x = taken(hands[n]).due(sizes[n], "count", 5);
            x.dueRing(0, first[n]).dueRing(sizes[n] - 1, last[n]);
            for (int what = 0; what < 3; what++) {
                for (int bad : new int[] {-1, sizes[n], sizes[n] + 1, LEAST, MOST}) {
                    x.due(INDEX, "ring", bad, what);
                }
            }
            for (int bad : new int[] {-1, 3, LEAST, MOST}) {
                x.due(INDEX, "ring", 0, bad).due(INDEX, "ring", sizes[n] - 1, bad).due(INDEX, "ring", -1, bad);
            }
            x.dueRing(sizes[n] - 1, last[n]);
        }
    }

    private static void togetherRefused() {
        sentence = "it couldn't be taken";
        int[][] hands = {{1, 0, 1}, {4, -4, 7}, {195, -751, 723}, LONGEST};
        for (int[] hand : hands) {
            List<String> want = taken(hand).everything();
            Asked x = taken(hand);
            for (int[] form : REFUSED) {
                x.due(ARGUMENT, "together", form).due(true, "together", hand);
            }
            dueSame(want, x.everything());
        }
    }

    private static void togetherOrNot() {
        sentence = "Whether a form is of the class of that at hand";
        Asked x = taken(195, -751, 723);
        List<String> want = taken(195, -751, 723).everything();
        x.due(true, "together", -3, 5, 3).due(true, "together", 1, 7, -3).due(true, "together", 195, -751, 723);
        x.due(false, "together", 1, 0, 1).due(false, "together", 1, 1, -1).due(false, "together", LONGEST);
        dueSame(want, x.everything());
        // The same discriminant, but another class: mirrored, with other signs, with a divisor.
        taken(4, -3, 7).due(true, "together", 7, 3, 4).due(false, "together", 4, 3, 7);
        taken(1, 0, -3).due(true, "together", -2, 2, 1).due(false, "together", -1, 0, 3);
        taken(2, 0, 2).due(false, "together", 1, 0, 4).due(true, "together", 4, 4, 2);
        // At the edge of the coefficients, and at both ends of the longest ring.
        taken(64, -1, 4096).due(true, "together", EDGE, -524287, 64).due(false, "together", EDGE, 524287, 64);
        taken(LONGEST).due(true, "together", 41, 925, -924).due(true, "together", -924, 923, 42);
        taken(41, 925, -924).due(true, "together", LONGEST).due(true, "together", 1, 1, -251790);
    }

    private static void numberRefused(String call, String text, int... more) {
        sentence = text;
        for (int[] hand : new int[][] {{1, 0, 1}, {195, -751, 723}}) {
            List<String> want = taken(hand).everything();
            Asked x = taken(hand);
            for (int bad : new int[] {-1, 4, 5, LEAST, MOST}) {
                x.due(INDEX, call, with(bad, more));
            }
            dueSame(want, x.everything());
        }
    }

    private static int[] with(int first, int... more) {
        int[] all = new int[more.length + 1];
        all[0] = first;
        System.arraycopy(more, 0, all, 1, more.length);
        return all;
    }

    private static void signs() {
        numberRefused("sign", "sign .. IndexOutOfBoundsException: another i");
        sentence = "-1, 0, 1 as it is below 0, 0, above";
        taken(1, 2, 2).due(0, "sign", 0).due(1, "sign", 1).due(-1, "sign", 2).due(-1, "sign", 3);
        taken(195, -751, 723).due(-1, "sign", 0).due(1, "sign", 1).due(-1, "sign", 2).due(1, "sign", 3);
        taken(LONGEST).due(-1, "sign", 0).due(1, "sign", 1).due(-1, "sign", 2).due(1, "sign", 3);
    }

    private static void bits() {
        numberRefused("bits", "bits .. IndexOutOfBoundsException: another i");
        sentence = "How many bits its size .. has, without zeros ahead";
        taken(1, 2, 2).due(0, "bits", 0).due(1, "bits", 1).due(1, "bits", 2).due(1, "bits", 3);
        // The matrix is (-1, n, 0, -1) here, and (-1, -n, 0, -1) with the other b.
        for (int power = 1; power < 15; power++) {
            for (int n = (1 << power) - (power > 1 ? 1 : 0); n <= (1 << power) + 1; n++) {
                int bits = n < 1 << power ? power : power + 1;
                taken(1, -2 * n, n * n + 1).due(bits, "bits", 1).due(1, "sign", 1);
                taken(1, 2 * n, n * n + 1).due(bits, "bits", 1).due(-1, "sign", 1);
            }
        }
        taken(LONGEST).due(7821, "bits", 0).due(7821, "bits", 1).due(7821, "bits", 2).due(7821, "bits", 3);
    }

    private static void wholeWords() {
        sentence = "Bits 32 k .. 32 k + 31 of its size, as an int";
        dueNumberOf(1, "1478350993", 1, 1, -48);
        dueNumberOf(1, "-2058527639", 1, 0, -157);
        dueNumberOf(1, "2812602581", -1, 1, 130);
        dueNumberOf(0, "-2593249355", -1, 1, 170);
        dueNumberOf(3, "7982581275", 1, 1, -219);
        dueNumberOf(1, "-5329494592", -1, 0, 149);
        dueNumberOf(0, "5831748618883609844", 1, 1, -220);
        dueNumberOf(1, "9392068876163259871", 1, 1, -358);
        dueNumberOf(1, "-17494420463138238242", -1, 1, 330);
        dueNumberOf(1, "22995111293025443339", -1, 1, 232);
        dueNumberOf(3, "-30484884670595351872", -1, 1, 114);
        dueNumberOf(1, "39555235861752570305264434435", 1, 1, -352);
        dueNumberOf(2, "-71894197845234462885260220277", -1, 1, 610);
        dueNumberOf(0, "-79846526039616977314377293491", -1, 1, 610);
        // The lowest word of these is 0.
        dueNumberOf(3, "-14963666059264", 16, 111659, 194806900);
        dueNumberOf(3, "-541684670456391000195752987197440", 8, 8451, 2231690);
        dueNumberOf(3, "6481345070106497535929386315562948231168", -14, -140954, -354784819);
    }

    private static void dueNumberOf(int i, String want, int... form) {
        taken(form).dueNumber(i, new BigInteger(want));
    }

    private static void words() {
        numberRefused("word", "word .. IndexOutOfBoundsException: another i", 0);
        sentence = "word .. another i, or k isn't 0 .. 511";
        Asked x = taken(LONGEST);
        int[] first = {1912463616, 1604187585, 1649722433, 1485338730};
        int[] last = {4796, 4486, 4601, 4303};
        for (int i = 0; i < 4; i++) {
            x.due(first[i], "word", i, 0).due(last[i], "word", i, 244);
            for (int k : new int[] {245, 255, 256, 257, 510, 511}) {
                x.due(0, "word", i, k);
            }
            for (int bad : new int[] {-1, 512, 513, LEAST, MOST}) {
                x.due(INDEX, "word", i, bad);
            }
            x.due(last[i], "word", i, 244);
        }
        x.due(INDEX, "word", 4, 512).due(INDEX, "word", -1, -1).due(INDEX, "word", 4, 511);
        new Asked().due(1, "word", 0, 0).due(0, "word", 0, 511).due(INDEX, "word", 0, 512);
        new Asked().due(0, "word", 1, 0).due(0, "word", 1, 511).due(INDEX, "word", 1, -1);
    }

    private static void residues() {
        numberRefused("residue", "residue .. IndexOutOfBoundsException: another i", 5);
        sentence = "residue .. IllegalArgumentException: m is below 1";
        Asked x = taken(195, -751, 723);
        for (int i = 0; i < 4; i++) {
            x.due(0, "residue", i, 1).due(i == 1 ? 0 : i == 2 ? 0 : 1, "residue", i, 2);
            x.due(ARGUMENT, "residue", i, 0).due(ARGUMENT, "residue", i, -1).due(ARGUMENT, "residue", i, LEAST);
        }
        // With both at fault the index comes first, as the document names it first.
        x.due(INDEX, "residue", 4, 0).due(INDEX, "residue", -1, -1);
        x.dueMatrix(-37, 72, -18, 35);
    }

    private static void residuesWrapAround() {
        sentence = "The number 0 .. m - 1 that is less than it by a multiple of m";
        // The matrix is (-37, 72, -18, 35).
        Asked x = taken(195, -751, 723);
        x.due(0, "residue", 0, 37).due(1, "residue", 0, 38).due(35, "residue", 0, 36);
        x.due(0, "residue", 1, 72).due(72, "residue", 1, 73).due(1, "residue", 1, 71);
        x.due(0, "residue", 2, 18).due(0, "residue", 2, 9).due(1, "residue", 2, 19).due(16, "residue", 2, 17);
        x.due(MOST - 37, "residue", 0, MOST).due(72, "residue", 1, MOST).due(MOST - 18, "residue", 2, MOST);
        // The matrix is (0, 1, -1, -1).
        Asked small = taken(1, 2, 2);
        for (int m : new int[] {1, 2, 3, MOST - 1, MOST}) {
            small.due(0, "residue", 0, m).due(m == 1 ? 0 : 1, "residue", 1, m);
            small.due(m - 1, "residue", 2, m).due(m - 1, "residue", 3, m);
        }
        Asked longest = taken(LONGEST);
        int[] rests = {1228810270, 1281870742, 76781284, 425166072};
        int[] smaller = {343075, 121403, 148671, 723127};
        for (int i = 0; i < 4; i++) {
            longest.due(rests[i], "residue", i, MOST).due(smaller[i], "residue", i, 1000003);
            longest.due(0, "residue", i, 1);
        }
    }

    private static void manyCalls() {
        sentence = "An object is used for at most 512 calls after it has been made";
        lastCall(LONGEST, "1007161", "take", LONGEST);
        lastCall(LONGEST, ARGUMENT, "take", 1, 2, 1);
        lastCall(LONGEST, "-924", "form", 2, 0);
        lastCall(LONGEST, "4705", "count", 4);
        lastCall(LONGEST, "-924", "ring", LONGEST_SIZE - 1, 2);
        lastCall(LONGEST, "true", "together", LONGEST);
        lastCall(LONGEST, "-1", "sign", 0);
        lastCall(LONGEST, "7821", "bits", 3);
        lastCall(LONGEST, "4303", "word", 3, 244);
        lastCall(LONGEST, "1228810270", "residue", 0, MOST);
        Asked x = new Asked();
        for (int n = 0; n < CALLS / 4; n++) {
            x.due(1007161, "take", LONGEST).due(76781284, "residue", 2, MOST);
            x.due(61, "take", 195, -751, 723).due(7, "bits", 1);
        }
    }

    /** Dear calls and refused ones, and at the very last the one that is asked. */
    private static void lastCall(int[] hand, String want, String call, int... n) {
        Asked x = new Asked();
        for (int k = 0; k < 85; k++) {
            x.due(discriminant(hand), "take", hand).due(1228810270, "residue", 0, MOST);
            x.due(41, "ring", LONGEST_SIZE - 1, 0).due(true, "together", 41, 925, -924);
            x.due(ARGUMENT, "take", 1, 0, -1).due(INDEX, "word", 0, 512);
        }
        x.due(-1, "count", 6);
        x.due(want, call, n);
        if (x.calls != CALLS) {
            complain("the test itself makes " + x.calls + " calls");
        }
    }

    public static void main(String[] args) {
        ownMemory();
        coefficients();
        noSquare();
        discriminants();
        signOfFirst();
        reducedBelow();
        reducedAbove();
        nextNearZero();
        nextBelowRoot();
        rings();
        names();
        ways();
        matrices();
        newObject();
        takeTaken();
        takeRefused();
        formRefused();
        countOfAnother();
        countOfRoot();
        countOfDivisor();
        countOfSteps();
        ringRefused();
        togetherOrNot();
        togetherRefused();
        signs();
        bits();
        wholeWords();
        words();
        residues();
        residuesWrapAround();
        manyCalls();
        System.out.println(wrong == 0 ? "all answers are as due" : wrong + " answers are not as due");
        if (wrong != 0) {
            System.exit(1);
        }
    }
}
