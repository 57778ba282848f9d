/**
 * Forms in two unknowns: which are reduced, rings of reduced ones, the names of classes, and the
 * matrix that takes a name to a form.
 */
public final class FormRing {
    private static final long GREATEST_COEFFICIENT = 1073741824L;
    private static final long GREATEST_DISCRIMINANT = 1048576L;
    private static final int GREATEST_ROOT_BIT = 1024;
    private static final int COEFFICIENTS = 3;
    private static final int NUMBERS = 4;
    private static final int WORDS_TO_ASK_FOR = 512;

    // No way to a reduced form has a hundred steps and no ring five thousand forms:
    // this only lets every loop over steps be seen to end.
    private static final int MOST_STEPS = 1000000;

    private final Form hand;
    private final Form reduced;
    private final Form name;
    private final Form walker;
    private final Matrix matrix;
    private int stepsToReduced;
    private int stepsToName;
    private int ringSize;
    private boolean matrixMade;

    public FormRing() {
        hand = new Form();
        reduced = new Form();
        name = new Form();
        walker = new Form();
        matrix = new Matrix();
        hand.put(1, 0, 1);
        settle();
    }

    public int take(int a, int b, int c) throws IllegalArgumentException {
        if (!canBeTaken(a, b, c)) {
            throw new IllegalArgumentException("this form can't be taken");
        }
        hand.put(a, b, c);
        settle();
        return (int) hand.discriminant;
    }

    public int form(int which, int what) throws IndexOutOfBoundsException {
        if (which < 0 || which > 2 || !isCoefficient(what)) {
            throw new IndexOutOfBoundsException("which and what are 0 to 2");
        }
        if (which == 0) {
            return hand.coefficient(what);
        }
        return which == 1 ? reduced.coefficient(what) : name.coefficient(what);
    }

    public int count(int what) {
        switch (what) {
            case 0:
                return (int) hand.discriminant;
            case 1:
                return (int) hand.root;
            case 2:
                return hand.greatestDivisor();
            case 3:
                return stepsToReduced;
            case 4:
                return stepsToName;
            case 5:
                return ringSize;
            default:
                return -1;
        }
    }

    public int ring(int k, int what) throws IndexOutOfBoundsException {
        if (k < 0 || k >= ringSize || !isCoefficient(what)) {
            throw new IndexOutOfBoundsException("k is not in the ring, or what not 0 to 2");
        }
        walker.copy(name);
        for (int step = 0; step < k; step++) {
            walker.goOn();
        }
        return walker.coefficient(what);
    }

    public boolean together(int a, int b, int c) throws IllegalArgumentException {
        if (!canBeTaken(a, b, c)) {
            throw new IllegalArgumentException("this form couldn't be taken");
        }
        walker.put(a, b, c);
        if (walker.discriminant != hand.discriminant) {
            return false;
        }
        walker.goToReduced();
        for (int k = 0; k < ringSize; k++) {
            if (walker.isSame(name)) {
                return true;
            }
            walker.goOn();
        }
        return false;
    }

    public int sign(int i) throws IndexOutOfBoundsException {
        if (!isNumber(i)) {
            throw new IndexOutOfBoundsException("i is 0 to 3");
        }
        makeMatrix();
        return matrix.signOf(i);
    }

    public int bits(int i) throws IndexOutOfBoundsException {
        if (!isNumber(i)) {
            throw new IndexOutOfBoundsException("i is 0 to 3");
        }
        makeMatrix();
        return matrix.bitsOf(i);
    }

    public int word(int i, int k) throws IndexOutOfBoundsException {
        if (!isNumber(i) || k < 0 || k >= WORDS_TO_ASK_FOR) {
            throw new IndexOutOfBoundsException("i is 0 to 3, k 0 to 511");
        }
        makeMatrix();
        return matrix.wordOf(i, k);
    }

    public int residue(int i, int m) throws IndexOutOfBoundsException, IllegalArgumentException {
        if (!isNumber(i)) {
            throw new IndexOutOfBoundsException("i is 0 to 3");
        }
        if (m < 1) {
            throw new IllegalArgumentException("m is above 0");
        }
        makeMatrix();
        return matrix.residueOf(i, m);
    }

    private static boolean isCoefficient(int what) {
        return what >= 0 && what < COEFFICIENTS;
    }

    private static boolean isNumber(int i) {
        return i >= 0 && i < NUMBERS;
    }

    private static boolean canBeTaken(long a, long b, long c) {
        if (!isSmallEnough(a) || !isSmallEnough(b) || !isSmallEnough(c)) {
            return false;
        }
        long discriminant = discriminantOf(a, b, c);
        if (discriminant < -GREATEST_DISCRIMINANT || discriminant > GREATEST_DISCRIMINANT) {
            return false;
        }
        if (discriminant < 0) {
            return a > 0;
        }
        long root = wholeRoot(discriminant);
        return root * root != discriminant;
    }

    private static boolean isSmallEnough(long coefficient) {
        return coefficient >= -GREATEST_COEFFICIENT && coefficient <= GREATEST_COEFFICIENT;
    }

    private static long discriminantOf(long a, long b, long c) {
        return b * b - 4 * a * c;
    }

    /** The whole part of the root of a discriminant, -1 if it is below 0. */
    private static long wholeRoot(long discriminant) {
        if (discriminant < 0) {
            return -1;
        }
        long root = 0;
        for (int bit = GREATEST_ROOT_BIT; bit > 0; bit = bit >> 1) {
            long greater = root + bit;
            if (greater * greater <= discriminant) {
                root = greater;
            }
        }
        return root;
    }

    private void settle() {
        matrixMade = false;
        walker.copy(hand);
        stepsToReduced = walker.goToReduced();
        reduced.copy(walker);
        findName();
    }

    /** Goes round the ring once; the walker stands on the reduced form before and after. */
    private void findName() {
        name.copy(reduced);
        stepsToName = stepsToReduced;
        ringSize = 1;
        if (hand.discriminant < 0) {
            return;
        }
        walker.goOn();
        while (ringSize < MOST_STEPS && !walker.isSame(reduced)) {
            if (walker.isBefore(name)) {
                name.copy(walker);
                stepsToName = stepsToReduced + ringSize;
            }
            walker.goOn();
            ringSize++;
        }
    }

    // The matrix is by far the dearest thing to know of a form, so it waits until it is asked for.
    private void makeMatrix() {
        if (matrixMade) {
            return;
        }
        walker.copy(hand);
        matrix.begin();
        for (int step = 0; step < stepsToName; step++) {
            matrix.undoStep(walker.goOn());
        }
        matrix.finish();
        matrixMade = true;
    }

    /** A form with its discriminant; it can go on to its next. */
    private static final class Form {
        long a;
        long b;
        long c;
        long discriminant;
        long root;

        void put(long newA, long newB, long newC) {
            a = newA;
            b = newB;
            c = newC;
            discriminant = discriminantOf(newA, newB, newC);
            root = wholeRoot(discriminant);
        }

        void copy(Form other) {
            a = other.a;
            b = other.b;
            c = other.c;
            discriminant = other.discriminant;
            root = other.root;
        }

        boolean isSame(Form other) {
            return a == other.a && b == other.b && c == other.c;
        }

        boolean isBefore(Form other) {
            return a < other.a || a == other.a && b < other.b;
        }

        int coefficient(int what) {
            if (what == 0) {
                return (int) a;
            }
            return what == 1 ? (int) b : (int) c;
        }

        int greatestDivisor() {
            return (int) commonDivisor(commonDivisor(Math.abs(a), Math.abs(b)), Math.abs(c));
        }

        private static long commonDivisor(long greater, long smaller) {
            long x = greater;
            long y = smaller;
            // Two rounds at least halve x, so that 31 bits need fewer than a hundred.
            for (int round = 0; round < 100 && y != 0; round++) {
                long rest = x % y;
                x = y;
                y = rest;
            }
            return x;
        }

        boolean isReduced() {
            if (discriminant < 0) {
                long size = Math.abs(b);
                return size <= a && a <= c && (b >= 0 || size != a && a != c);
            }
            // R is never a whole number: a whole number is below it if it is at most root.
            long twice = 2 * Math.abs(a);
            return b > 0 && b <= root && twice + b > root && twice - b <= root;
        }

        /** Goes on until the form is reduced, and answers with the number of steps. */
        int goToReduced() {
            int steps = 0;
            while (steps < MOST_STEPS && !isReduced()) {
                goOn();
                steps++;
            }
            return steps;
        }

        /** Goes on to the next form, and answers with the last number of the step's matrix. */
        long goOn() {
            // With c = 0 the discriminant would be a square, and the form couldn't be taken.
            if (c == 0) {
                return 0;
            }
            long e = nextMiddle(Math.abs(c));
            long turn = (b + e) / (2 * c);
            long last = (e * e - discriminant) / (4 * c);
            a = c;
            b = e;
            c = last;
            return turn;
        }

        private long nextMiddle(long size) {
            long period = 2 * size;
            if (period < 1) {
                return 0;
            }
            if (discriminant < 0 || size > root) {
                long e = Math.floorMod(-b, period);
                return e > size ? e - period : e;
            }
            return root - Math.floorMod(root + b, period);
        }
    }

    /**
     * The matrix that takes a name to a form. It grows by the inverses of the steps, each put before
     * what stands already, so that no product must be turned round in the end. While it grows its
     * four numbers stand in two's complement, least word first; when it is finished, as sizes with
     * signs beside them.
     */
    private static final class Matrix {
        // With discriminants up to 1048576 no number needs more than some 7,900 bits.
        private static final int MOST_WORDS = 256;
        private static final long WORD_MASK = 0xFFFFFFFFL;

        // Two products of such a factor and a word, and what is carried, stay inside a long.
        private static final long GREATEST_FACTOR = 536870912L;

        private final int[][] numbers;
        private final int[] signs;

        // How many words of each number count: never fewer than one.
        private int length;

        // Steps that the four numbers don't hold yet: they are multiplied in by the dozen,
        // since going through the words for each one would cost some ten times as much.
        private long waiting0;
        private long waiting1;
        private long waiting2;
        private long waiting3;

        Matrix() {
            numbers = new int[NUMBERS][MOST_WORDS];
            signs = new int[NUMBERS];
            begin();
        }

        void begin() {
            length = 1;
            for (int i = 0; i < NUMBERS; i++) {
                numbers[i][0] = i == 0 || i == 3 ? 1 : 0;
            }
            forgetWaiting();
        }

        /** Puts (turn, 1, -1, 0) before the product: the inverse of (0, -1, 1, turn). */
        void undoStep(long turn) {
            if (isTooGreat(turn * waiting0 + waiting2) || isTooGreat(turn * waiting1 + waiting3)) {
                multiplyWaiting();
            }
            long first = turn * waiting0 + waiting2;
            long second = turn * waiting1 + waiting3;
            waiting2 = -waiting0;
            waiting3 = -waiting1;
            waiting0 = first;
            waiting1 = second;
        }

        void finish() {
            multiplyWaiting();
            for (int i = 0; i < NUMBERS; i++) {
                signs[i] = findSign(numbers[i]);
                if (signs[i] < 0) {
                    negate(numbers[i]);
                }
            }
        }

        int signOf(int i) {
            return signs[i];
        }

        int bitsOf(int i) {
            for (int k = length - 1; k >= 0; k--) {
                if (numbers[i][k] != 0) {
                    return 32 * k + bitsOfWord(numbers[i][k]);
                }
            }
            return 0;
        }

        int wordOf(int i, int k) {
            return k < length ? numbers[i][k] : 0;
        }

        int residueOf(int i, int m) {
            if (m < 1) {
                return 0;
            }
            long rest = 0;
            for (int k = length - 1; k >= 0; k--) {
                rest = ((rest << 32) + (numbers[i][k] & WORD_MASK)) % m;
            }
            return (int) (signs[i] < 0 && rest != 0 ? m - rest : rest);
        }

        private static boolean isTooGreat(long factor) {
            return factor > GREATEST_FACTOR || factor < -GREATEST_FACTOR;
        }

        private static int bitsOfWord(int word) {
            for (int bit = 31; bit > 0; bit--) {
                if (word >>> bit != 0) {
                    return bit + 1;
                }
            }
            return word;
        }

        private void forgetWaiting() {
            waiting0 = 1;
            waiting1 = 0;
            waiting2 = 0;
            waiting3 = 1;
        }

        private void multiplyWaiting() {
            lengthen();
            multiplyColumn(numbers[0], numbers[2]);
            multiplyColumn(numbers[1], numbers[3]);
            shorten();
            forgetWaiting();
        }

        private void multiplyColumn(int[] upper, int[] lower) {
            long upperCarry = 0;
            long lowerCarry = 0;
            for (int k = 0; k < length; k++) {
                long x = upper[k] & WORD_MASK;
                long y = lower[k] & WORD_MASK;
                upperCarry += waiting0 * x + waiting1 * y;
                lowerCarry += waiting2 * x + waiting3 * y;
                upper[k] = (int) upperCarry;
                lower[k] = (int) lowerCarry;
                upperCarry = upperCarry >> 32;
                lowerCarry = lowerCarry >> 32;
            }
        }

        // One word more has room for every product with factors below 31 bits.
        private void lengthen() {
            if (length >= MOST_WORDS) {
                return;
            }
            for (int i = 0; i < NUMBERS; i++) {
                numbers[i][length] = numbers[i][length - 1] >> 31;
            }
            length++;
        }

        private void shorten() {
            if (length < 2) {
                return;
            }
            for (int i = 0; i < NUMBERS; i++) {
                if (numbers[i][length - 1] != numbers[i][length - 2] >> 31) {
                    return;
                }
            }
            length--;
        }

        private int findSign(int[] number) {
            if (number[length - 1] < 0) {
                return -1;
            }
            for (int k = 0; k < length; k++) {
                if (number[k] != 0) {
                    return 1;
                }
            }
            return 0;
        }

        private void negate(int[] number) {
            long carry = 1;
            for (int k = 0; k < length; k++) {
                carry += ~number[k] & WORD_MASK;
                number[k] = (int) carry;
                carry = carry >> 32;
            }
        }
    }
}
