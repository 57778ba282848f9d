import java.math.BigInteger;
import java.util.ArrayList;
import java.util.List;
import java.util.Random;

/** Every answer about many forms, beside one that follows the document's words with BigInteger. */
public final class PlainWordsTest {
    private static final long EDGE = 1073741824L;
    private static final long GREATEST_DISCRIMINANT = 1048576L;
    private static final BigInteger WORD = BigInteger.ONE.shiftLeft(32);

    private static int wrong = 0;

    private record Plain(long a, long b, long c) {
        long discriminant() {
            return b * b - 4 * a * c;
        }

        boolean belowRoot(long x) {
            return x < 0 || x * x < discriminant();
        }

        boolean reduced() {
            if (discriminant() < 0) {
                boolean edge = Math.abs(b) == a || a == c;
                return Math.abs(b) <= a && a <= c && (!edge || b >= 0);
            }
            return 0 < b && belowRoot(b) && !belowRoot(2 * Math.abs(a) + b) && belowRoot(2 * Math.abs(a) - b);
        }

        long middle() {
            long size = Math.abs(c);
            boolean near = discriminant() < 0 || !belowRoot(size);
            long e = near ? size : 1024;
            if (near) {
                e -= Math.floorMod(e + b, 2 * size);
                return e;
            }
            while (!belowRoot(e) || (b + e) % (2 * c) != 0) {
                e--;
            }
            return e;
        }

        long turn() {
            return (b + middle()) / (2 * c);
        }

        Plain next() {
            long e = middle();
            return new Plain(c, e, (e * e - discriminant()) / (4 * c));
        }

        Plain firstReduced() {
            Plain at = this;
            while (!at.reduced()) {
                at = at.next();
            }
            return at;
        }

        boolean canBeTaken() {
            if (Math.max(Math.abs(a), Math.max(Math.abs(b), Math.abs(c))) > EDGE) {
                return false;
            }
            long d = discriminant();
            if (d < 0) {
                return d >= -GREATEST_DISCRIMINANT && a > 0;
            }
            long root = Math.round(Math.sqrt(d));
            return d <= GREATEST_DISCRIMINANT && root * root != d;
        }

        Plain through(long p, long q, long r, long s) {
            return new Plain(a * p * p + b * p * r + c * r * r,
                    2 * a * p * q + b * (p * s + q * r) + 2 * c * r * s,
                    a * q * q + b * q * s + c * s * s);
        }

        long coefficient(int what) {
            return what == 0 ? a : what == 1 ? b : c;
        }
    }

    private static final class Facts {
        final Plain form;
        final Plain reduced;
        final Plain name;
        final int toReduced;
        final List<Plain> ring = new ArrayList<>();
        int way;
        BigInteger p = BigInteger.ONE;
        BigInteger q = BigInteger.ZERO;
        BigInteger r = BigInteger.ZERO;
        BigInteger s = BigInteger.ONE;

        Facts(Plain form) {
            this.form = form;
            Plain at = form;
            while (!at.reduced()) {
                at = step(at);
            }
            reduced = at;
            toReduced = way;
            List<Plain> round = new ArrayList<>();
            do {
                round.add(at);
                at = form.discriminant() < 0 ? at : at.next();
            } while (!at.equals(reduced));
            Plain least = reduced;
            for (Plain g : round) {
                if (g.a() < least.a() || g.a() == least.a() && g.b() < least.b()) {
                    least = g;
                }
            }
            name = least;
            while (!at.equals(name)) {
                at = step(at);
            }
            int start = round.indexOf(name);
            for (int k = 0; k < round.size(); k++) {
                ring.add(round.get((start + k) % round.size()));
            }
        }

        private Plain step(Plain at) {
            BigInteger turn = BigInteger.valueOf(at.turn());
            BigInteger newQ = q.multiply(turn).subtract(p);
            BigInteger newS = s.multiply(turn).subtract(r);
            p = q;
            q = newQ;
            r = s;
            s = newS;
            way++;
            return at.next();
        }

        BigInteger[] matrix() {
            return new BigInteger[] {s, q.negate(), r.negate(), p};
        }
    }

    /** An object that makes way for a new one, with the same form at hand, after its 512th call. */
    private static final class Asked {
        private FormRing x = new FormRing();
        private Plain form = new Plain(1, 0, 1);
        private int calls = 0;

        FormRing again() {
            if (calls >= 512) {
                x = new FormRing();
                x.take((int) form.a(), (int) form.b(), (int) form.c());
                calls = 1;
            }
            calls++;
            return x;
        }

        int take(Plain newForm) {
            int answer = again().take((int) newForm.a(), (int) newForm.b(), (int) newForm.c());
            form = newForm;
            return answer;
        }
    }

    private static void due(Plain form, String call, long got, long want) {
        if (got != want) {
            wrong++;
            System.out.println(form + ": " + call + " answered " + got + ", due is " + want);
        }
    }

    private static void compare(Asked x, Plain form, Random random) {
        due(form, "take", x.take(form), form.discriminant());
        Facts facts = new Facts(form);
        // Whether the matrix or the ring is asked for first must not matter.
        boolean matrixFirst = random.nextBoolean();
        if (matrixFirst) {
            compareMatrix(x, facts, random);
        }
        for (int what = 0; what < 3; what++) {
            due(form, "form 0", x.again().form(0, what), form.coefficient(what));
            due(form, "form 1", x.again().form(1, what), facts.reduced.coefficient(what));
            due(form, "form 2", x.again().form(2, what), facts.name.coefficient(what));
        }
        compareCounts(x, facts);
        compareRing(x, facts, random);
        if (!matrixFirst) {
            compareMatrix(x, facts, random);
        }
    }

    private static void compareCounts(Asked x, Facts facts) {
        Plain form = facts.form;
        long d = form.discriminant();
        long root = d < 0 ? -1 : (long) Math.sqrt(d);
        BigInteger divisor = BigInteger.valueOf(form.a()).gcd(BigInteger.valueOf(form.b()))
                .gcd(BigInteger.valueOf(form.c()));
        long[] want = {d, root, divisor.longValue(), facts.toReduced, facts.way, facts.ring.size()};
        for (int what = 0; what < want.length; what++) {
            due(form, "count " + what, x.again().count(what), want[what]);
        }
    }

    private static void compareRing(Asked x, Facts facts, Random random) {
        int size = facts.ring.size();
        for (int n = 0; n < 8; n++) {
            int k = n == 0 ? size - 1 : n == 1 ? 0 : random.nextInt(size);
            Plain want = facts.ring.get(k);
            for (int what = 0; what < 3; what++) {
                due(facts.form, "ring " + k, x.again().ring(k, what), want.coefficient(what));
            }
            Plain moved = movedAbout(want, random);
            due(facts.form, "together " + moved, asNumber(x, moved), 1);
            Plain mirrored = new Plain(want.a(), -want.b(), want.c());
            due(facts.form, "together " + mirrored, asNumber(x, mirrored), sameClass(mirrored, facts));
            Plain turned = new Plain(-want.a(), want.b(), -want.c());
            if (facts.form.discriminant() > 0) {
                due(facts.form, "together " + turned, asNumber(x, turned), sameClass(turned, facts));
            }
        }
    }

    private static long asNumber(Asked x, Plain f) {
        return x.again().together((int) f.a(), (int) f.b(), (int) f.c()) ? 1 : 0;
    }

    private static long sameClass(Plain f, Facts facts) {
        return new Facts(f).name.equals(facts.name) ? 1 : 0;
    }

    private static void compareMatrix(Asked x, Facts facts, Random random) {
        Plain form = facts.form;
        BigInteger[] matrix = facts.matrix();
        BigInteger unit = matrix[0].multiply(matrix[3]).subtract(matrix[1].multiply(matrix[2]));
        due(form, "the test's own determinant", unit.longValue(), 1);
        due(form, "a of the test's own name, taken", value(facts.name, matrix[0], matrix[2]), form.a());
        due(form, "c of the test's own name, taken", value(facts.name, matrix[1], matrix[3]), form.c());
        for (int i = 0; i < 4; i++) {
            BigInteger size = matrix[i].abs();
            due(form, "sign " + i, x.again().sign(i), matrix[i].signum());
            due(form, "bits " + i, x.again().bits(i), size.bitLength());
            for (int k = 0; k < size.bitLength() / 32 + 3; k++) {
                due(form, "word " + i + " " + k, x.again().word(i, k), size.shiftRight(32 * k).mod(WORD).intValue());
            }
            for (int n = 0; n < 3; n++) {
                int m = n == 0 ? Integer.MAX_VALUE : 1 + random.nextInt(n == 1 ? 10 : Integer.MAX_VALUE - 1);
                due(form, "residue " + i + " " + m, x.again().residue(i, m),
                        matrix[i].mod(BigInteger.valueOf(m)).longValue());
            }
        }
    }

    private static long value(Plain f, BigInteger x, BigInteger y) {
        return BigInteger.valueOf(f.a()).multiply(x).multiply(x)
                .add(BigInteger.valueOf(f.b()).multiply(x).multiply(y))
                .add(BigInteger.valueOf(f.c()).multiply(y).multiply(y)).longValueExact();
    }

    /** Another form of the same class, with coefficients that grow as far as they may. */
    private static Plain movedAbout(Plain start, Random random) {
        Plain at = start;
        for (int n = random.nextInt(40); n > 0; n--) {
            long t = random.nextInt(9) - 4;
            if (random.nextInt(8) == 0) {
                t = random.nextInt(60001) - 30000;
            }
            Plain to = random.nextBoolean() ? at.through(1, t, 0, 1) : at.through(0, -1, 1, t);
            if (to.canBeTaken()) {
                at = to;
            }
        }
        return at;
    }

    private static Plain anyForm(Random random) {
        int reach = new int[] {4, 20, 100, 600, 2000}[random.nextInt(5)];
        for (int tries = 0; tries < 100000; tries++) {
            Plain f = new Plain(random.nextInt(2 * reach + 1) - reach, random.nextInt(2 * reach + 1) - reach,
                    random.nextInt(2 * reach + 1) - reach);
            if (f.canBeTaken()) {
                return f;
            }
        }
        return new Plain(1, 1, -1);
    }

    private static void randomForms(Random random) {
        for (int object = 0; object < 150; object++) {
            Asked x = new Asked();
            for (int n = 0; n < 5; n++) {
                compare(x, movedAbout(anyForm(random), random), random);
            }
        }
    }

    private static void everySmallForm(Random random) {
        for (int a = -6; a <= 6; a++) {
            for (int b = -8; b <= 8; b++) {
                Asked x = new Asked();
                for (int c = -6; c <= 6; c++) {
                    Plain f = new Plain(a, b, c);
                    if (f.canBeTaken()) {
                        compare(x, f, random);
                    }
                }
            }
        }
    }

    /** The longest rings that there are, all the way round: the greatest matrices. */
    private static void longestWays(Random random) {
        long[] discriminants = {969049, 979969, 1007161, 1048573, 1048569};
        for (long d : discriminants) {
            long b = d % 4 == 0 ? 0 : 1;
            Facts facts = new Facts(new Plain(1, b, (b - d) / 4));
            Asked x = new Asked();
            Plain behindName = facts.name.next();
            compare(x, behindName, random);
            Plain far = behindName;
            for (int n = 0; n < 200; n++) {
                Plain moved = movedAbout(behindName, random);
                if (moved.firstReduced().equals(behindName) && Math.abs(moved.b()) > Math.abs(far.b())) {
                    far = moved;
                }
            }
            compare(x, far, random);
        }
    }

    private static void greatCoefficients(Random random) {
        Plain[] forms = {
            new Plain(EDGE, 524287, 64), new Plain(64, -524287, EDGE), new Plain(EDGE, 869476073, 176017322),
            new Plain(-176017322, -869476073, -EDGE), new Plain(EDGE, -159432885, 5918286),
            new Plain(5918286, 159432885, EDGE), new Plain(536894083, EDGE, 536847742),
            new Plain(-536847742, -EDGE, -536894083), new Plain(536894078, EDGE, 536847747),
            new Plain(1, 65540, EDGE), new Plain(EDGE, -65541, 1),
        };
        Asked x = new Asked();
        for (Plain f : forms) {
            compare(x, f, random);
        }
    }

    public static void main(String[] args) {
        Random random = new Random(20261115L);
        everySmallForm(random);
        greatCoefficients(random);
        longestWays(random);
        randomForms(random);
        System.out.println(wrong == 0 ? "all answers are as due" : wrong + " answers are not as due");
        if (wrong != 0) {
            System.exit(1);
        }
    }
}
