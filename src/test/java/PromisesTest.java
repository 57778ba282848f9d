/** The promises one by one: ordinary inputs, the edges that the document names, wrong inputs. */
public final class PromisesTest {
    private static final long INDEX = Long.MIN_VALUE;
    private static final long ARGUMENT = Long.MIN_VALUE + 1;
    private static final int EDGE = 1073741824;

    private static int wrong = 0;

    private interface Call {
        long answer();
    }

    private static void due(String what, Call call, long want) {
        long got;
        try {
            got = call.answer();
        } catch (RuntimeException e) {
            got = codeOf(e);
        }
        if (got != want) {
            wrong++;
            System.out.println(what + " answered " + text(got) + ", due is " + text(want));
        }
    }

    // By the very class: what the machine throws is a class below IndexOutOfBoundsException.
    private static long codeOf(RuntimeException e) {
        if (e.getClass() == IndexOutOfBoundsException.class) {
            return INDEX;
        }
        if (e.getClass() == IllegalArgumentException.class) {
            return ARGUMENT;
        }
        throw e;
    }

    private static String text(long answer) {
        if (answer == INDEX) {
            return "throws.IndexOutOfBoundsException";
        }
        return answer == ARGUMENT ? "throws.IllegalArgumentException" : Long.toString(answer);
    }

    private static void dueTake(FormRing x, int a, int b, int c, long want) {
        due("take(" + a + ", " + b + ", " + c + ")", () -> x.take(a, b, c), want);
    }

    private static void dueTogether(FormRing x, int a, int b, int c, long want) {
        due("together(" + a + ", " + b + ", " + c + ")", () -> x.together(a, b, c) ? 1 : 0, want);
    }

    private static void dueForm(FormRing x, int which, int a, int b, int c) {
        int[] want = {a, b, c};
        for (int what = 0; what < 3; what++) {
            int k = what;
            due("form(" + which + ", " + k + ")", () -> x.form(which, k), want[k]);
        }
    }

    private static void dueRing(FormRing x, int k, int a, int b, int c) {
        int[] want = {a, b, c};
        for (int what = 0; what < 3; what++) {
            int w = what;
            due("ring(" + k + ", " + w + ")", () -> x.ring(k, w), want[w]);
        }
    }

    private static void dueCounts(FormRing x, int... want) {
        for (int what = 0; what < want.length; what++) {
            int k = what;
            due("count(" + k + ")", () -> x.count(k), want[k]);
        }
    }

    private static void dueMatrix(FormRing x, long... want) {
        for (int n = 0; n < 4; n++) {
            int i = n;
            long size = Math.abs(want[i]);
            due("sign(" + i + ")", () -> x.sign(i), Long.signum(want[i]));
            due("bits(" + i + ")", () -> x.bits(i), 64 - Long.numberOfLeadingZeros(size));
            due("word(" + i + ", 0)", () -> x.word(i, 0), (int) size);
            due("word(" + i + ", 1)", () -> x.word(i, 1), (int) (size >>> 32));
            due("word(" + i + ", 511)", () -> x.word(i, 511), 0);
            for (int m : new int[] {1, 2, 3, 10, 1009, Integer.MAX_VALUE}) {
                due("residue(" + i + ", " + m + ")", () -> x.residue(i, m), Math.floorMod(want[i], (long) m));
            }
        }
    }

    private static void newObject() {
        FormRing x = new FormRing();
        for (int which = 0; which < 3; which++) {
            dueForm(x, which, 1, 0, 1);
        }
        dueCounts(x, -4, -1, 1, 0, 0, 1);
        dueRing(x, 0, 1, 0, 1);
        dueMatrix(x, 1, 0, 0, 1);
        dueTogether(x, 1, 0, 1, 1);
        dueTogether(x, 2, 2, 1, 1);
    }

    private static void takeAnswersWithTheDiscriminant() {
        FormRing x = new FormRing();
        dueTake(x, 195, -751, 723, 61);
        dueForm(x, 0, 195, -751, 723);
        dueTake(x, 1, 0, 262144, -1048576);
        dueTake(x, 262144, 0, 1, -1048576);
        dueTake(x, 1, 1, -262143, 1048573);
        dueTake(x, 1, 0, -262143, 1048572);
        dueTake(x, EDGE, 524287, 64, -1048575);
        dueTake(x, 64, -524287, EDGE, -1048575);
        dueTake(x, -EDGE, 869476073, -176017322, 17);
        dueTake(x, -176017322, 869476073, -EDGE, 17);
        dueTake(x, 536894083, EDGE, 536847742, 4632);
        dueTake(x, 536894083, -EDGE, 536847742, 4632);
        dueTake(x, -536894083, EDGE, -536847742, 4632);
        dueTake(x, 1, 65540, EDGE, 524304);
        dueTake(x, -EDGE, 65540, -1, 524304);
        dueTake(x, 536894078, EDGE, 536847747, -922088);
        dueForm(x, 0, 536894078, EDGE, 536847747);
    }

    private static void takeRefuses() {
        FormRing x = new FormRing();
        dueTake(x, 1, 0, -94, 376);
        int[][] refused = {
            {0, 0, 0}, {0, 1, 0}, {0, 3, 5}, {5, 3, 0}, {1, 2, 1}, {-1, 2, -1}, {1, 5, 6}, {1, 0, -1},
            {1, 0, -262144}, {1, 1024, 0}, {0, -1024, 7},
            {-1, 0, -1}, {-2, 1, -3}, {-EDGE, 524287, -64}, {-536894078, EDGE, -536847747},
            {1, 0, 262145}, {1, 0, -262145}, {1, 1, 262145}, {1, 1, -262144},
            {1, EDGE, 1}, {1, -EDGE, 1}, {EDGE, 0, EDGE}, {EDGE, 0, -EDGE}, {EDGE, EDGE, -EDGE},
            {EDGE + 1, 1, 1}, {1, EDGE + 1, 1}, {1, 1, EDGE + 1}, {-EDGE - 1, 1, 1}, {1, -EDGE - 1, 1},
            {1, 1, -EDGE - 1}, {Integer.MIN_VALUE, 0, 1}, {1, Integer.MIN_VALUE, 1}, {1, 0, Integer.MIN_VALUE},
            {Integer.MIN_VALUE, Integer.MIN_VALUE, Integer.MIN_VALUE},
            {Integer.MAX_VALUE, Integer.MAX_VALUE, Integer.MAX_VALUE},
            // With one coefficient just beyond the edge, and a discriminant that is no fault.
            {EDGE + 1, 65540, 1}, {1, 65540, EDGE + 1}, {-EDGE - 1, 65540, -1}, {-1, 65540, -EDGE - 1},
            {536894084, EDGE + 1, 536847742}, {536894084, -EDGE - 1, 536847742},
            {536894078, EDGE + 1, 536847748}, {536894078, -EDGE - 1, 536847748},
        };
        for (int[] f : refused) {
            dueTake(x, f[0], f[1], f[2], ARGUMENT);
            dueTogether(x, f[0], f[1], f[2], ARGUMENT);
        }
        dueForm(x, 0, 1, 0, -94);
        dueForm(x, 1, 1, 18, -13);
        dueForm(x, 2, -15, 14, 3);
        dueCounts(x, 376, 19, 1, 2, 11, 16);
        dueMatrix(x, 1487, -14417, 1336, -12953);
        dueTake(x, 1, 0, -1, ARGUMENT);
        dueMatrix(x, 1487, -14417, 1336, -12953);
    }

    private static void dueReducedAndName(int[] f, int[] reduced, int[] name) {
        FormRing x = new FormRing();
        dueTake(x, f[0], f[1], f[2], f[1] * (long) f[1] - 4L * f[0] * f[2]);
        dueForm(x, 0, f[0], f[1], f[2]);
        dueForm(x, 1, reduced[0], reduced[1], reduced[2]);
        dueForm(x, 2, name[0], name[1], name[2]);
    }

    private static void formShowsThree() {
        dueReducedAndName(new int[] {195, -751, 723}, new int[] {1, 7, -3}, new int[] {-3, 5, 3});
        dueReducedAndName(new int[] {4, -4, 7}, new int[] {4, 4, 7}, new int[] {4, 4, 7});
        dueReducedAndName(new int[] {4, 4, 7}, new int[] {4, 4, 7}, new int[] {4, 4, 7});
        dueReducedAndName(new int[] {4, -3, 7}, new int[] {4, -3, 7}, new int[] {4, -3, 7});
        dueReducedAndName(new int[] {5, -3, 5}, new int[] {5, 3, 5}, new int[] {5, 3, 5});
        dueReducedAndName(new int[] {6, -6, 6}, new int[] {6, 6, 6}, new int[] {6, 6, 6});
        dueReducedAndName(new int[] {-1, 0, 2}, new int[] {-1, 2, 1}, new int[] {-1, 2, 1});
        dueReducedAndName(new int[] {1, 0, -262143}, new int[] {1, 1022, -1022}, new int[] {-1022, 1022, 1});
        dueReducedAndName(new int[] {1, 1, -262143}, new int[] {1, 1023, -511}, new int[] {-979, 971, 27});
        dueReducedAndName(new int[] {EDGE, -524287, 64}, new int[] {64, -1, 4096}, new int[] {64, -1, 4096});
        dueReducedAndName(new int[] {31, 90, 3}, new int[] {3, 84, -56}, new int[] {-56, 28, 31});
        FormRing x = new FormRing();
        for (int bad : new int[] {-1, 3, Integer.MIN_VALUE, Integer.MAX_VALUE}) {
            for (int good = 0; good < 3; good++) {
                int g = good;
                due("form(" + g + ", " + bad + ")", () -> x.form(g, bad), INDEX);
                due("form(" + bad + ", " + g + ")", () -> x.form(bad, g), INDEX);
            }
            due("form(" + bad + ", " + bad + ")", () -> x.form(bad, bad), INDEX);
        }
    }

    private static void counts() {
        FormRing x = new FormRing();
        dueTake(x, 195, -751, 723, 61);
        dueCounts(x, 61, 7, 1, 3, 4, 6);
        dueTake(x, 10, 14, -30, 1396);
        dueCounts(x, 1396, 37, 2, 2, 15, 18);
        dueTake(x, 6, -6, 6, -108);
        dueCounts(x, -108, -1, 6, 1, 1, 1);
        dueTake(x, -9, 0, 6, 216);
        dueCounts(x, 216, 14, 3);
        dueTake(x, 3, 2, -20, 244);
        dueCounts(x, 244, 15, 1, 2, 23, 22);
        dueTake(x, 1, 1, -262143, 1048573);
        dueCounts(x, 1048573, 1023, 1, 2, 1097, 1106);
        dueTake(x, -12, 10, 3, 244);
        dueCounts(x, 244, 15, 1, 0, 0, 22);
        for (int bad : new int[] {-1, 6, 7, Integer.MIN_VALUE, Integer.MAX_VALUE}) {
            due("count(" + bad + ")", () -> x.count(bad), -1);
        }
    }

    private static void rings() {
        FormRing x = new FormRing();
        int[][] ring = {{-3, 5, 3}, {3, 7, -1}, {-1, 7, 3}, {3, 5, -3}, {-3, 7, 1}, {1, 7, -3}};
        int[][] sameClass = {{195, -751, 723}, {1, 7, -3}, {-3, 5, 3}};
        for (int[] f : sameClass) {
            dueTake(x, f[0], f[1], f[2], 61);
            for (int k = 0; k < ring.length; k++) {
                dueRing(x, k, ring[k][0], ring[k][1], ring[k][2]);
            }
        }
        for (int bad : new int[] {-1, 6, 7, Integer.MIN_VALUE, Integer.MAX_VALUE}) {
            due("ring(" + bad + ", 0)", () -> x.ring(bad, 0), INDEX);
        }
        for (int bad : new int[] {-1, 3, Integer.MIN_VALUE, Integer.MAX_VALUE}) {
            due("ring(5, " + bad + ")", () -> x.ring(5, bad), INDEX);
        }
        dueTake(x, 7, 0, 3, -84);
        dueRing(x, 0, 3, 0, 7);
        due("ring(1, 0)", () -> x.ring(1, 0), INDEX);
    }

    private static void togetherOrNot() {
        FormRing x = new FormRing();
        dueTake(x, 4, -3, 7, -103);
        dueTogether(x, 4, -3, 7, 1);
        dueTogether(x, 7, 3, 4, 1);
        dueTogether(x, 4, 3, 7, 0);
        dueTogether(x, 7, -3, 4, 0);
        dueTogether(x, 1, 1, 26, 0);
        dueTogether(x, 1, 0, 1, 0);
        dueTogether(x, 1, 0, -2, 0);
        dueForm(x, 0, 4, -3, 7);
        dueTake(x, 1, 0, -3, 12);
        dueTogether(x, -2, 2, 1, 1);
        dueTogether(x, 1, 2, -2, 1);
        dueTogether(x, 1, -20, 97, 1);
        dueTogether(x, -1, 0, 3, 0);
        dueTogether(x, 3, 0, -1, 0);
        dueMatrix(x, 1, -2, 1, -1);
        dueForm(x, 0, 1, 0, -3);
        dueTake(x, 2, 0, -4, 32);
        dueTogether(x, 1, 0, -8, 0);
        dueTogether(x, 4, 0, -2, 1);
    }

    private static void dueMatrixOf(int a, int b, int c, long... want) {
        FormRing x = new FormRing();
        dueTake(x, a, b, c, b * (long) b - 4L * a * c);
        dueMatrix(x, want);
        dueMatrix(x, want);
    }

    private static void matrices() {
        dueMatrixOf(195, -751, 723, -37, 72, -18, 35);
        dueMatrixOf(5, -3, 5, 0, 1, -1, 0);
        dueMatrixOf(5, 3, 5, 1, 0, 0, 1);
        dueMatrixOf(4, -4, 7, -1, 1, 0, -1);
        dueMatrixOf(1, 0, -2, 2, -3, 1, -1);
        dueMatrixOf(-1, 0, 2, -1, -1, 0, -1);
        dueMatrixOf(2, 0, -1, -1, 1, -1, 0);
        dueMatrixOf(3, 2, -20, 678461940, -1540165069, 635549149, -1442749462);
        dueMatrixOf(EDGE, -524287, 64, -4096, 1, -1, 0);
        dueMatrixOf(536894083, EDGE, 536847742, 786657, 786623, 23137, 23136);
        dueMatrixOf(536894078, EDGE, 536847747, -23166, -23165, -1, -1);
        FormRing x = new FormRing();
        dueTake(x, 1, 1, -262143, 1048573);
        int[] bits = {1819, 1828, 1819, 1828};
        int[] signs = {-1, 1, -1, 1};
        for (int n = 0; n < 4; n++) {
            int i = n;
            due("bits(" + i + ")", () -> x.bits(i), bits[i]);
            due("sign(" + i + ")", () -> x.sign(i), signs[i]);
        }
    }

    private static void matricesRefuse() {
        FormRing x = new FormRing();
        for (int bad : new int[] {-1, 4, Integer.MIN_VALUE, Integer.MAX_VALUE}) {
            due("sign(" + bad + ")", () -> x.sign(bad), INDEX);
            due("bits(" + bad + ")", () -> x.bits(bad), INDEX);
            due("word(" + bad + ", 0)", () -> x.word(bad, 0), INDEX);
            due("residue(" + bad + ", 5)", () -> x.residue(bad, 5), INDEX);
            due("residue(" + bad + ", 0)", () -> x.residue(bad, 0), INDEX);
        }
        for (int n = 0; n < 4; n++) {
            int i = n;
            for (int bad : new int[] {-1, 512, Integer.MIN_VALUE, Integer.MAX_VALUE}) {
                due("word(" + i + ", " + bad + ")", () -> x.word(i, bad), INDEX);
            }
            for (int bad : new int[] {0, -1, Integer.MIN_VALUE}) {
                due("residue(" + i + ", " + bad + ")", () -> x.residue(i, bad), ARGUMENT);
            }
        }
    }

    public static void main(String[] args) {
        newObject();
        takeAnswersWithTheDiscriminant();
        takeRefuses();
        formShowsThree();
        counts();
        rings();
        togetherOrNot();
        matrices();
        matricesRefuse();
        System.out.println(wrong == 0 ? "all answers are as due" : wrong + " answers are not as due");
        if (wrong != 0) {
            System.exit(1);
        }
    }
}
