import java.math.BigInteger;
import java.util.Random;

/** The greatest numbers that a desk can meet: 40 digits everywhere, long chains, and the edges of what fits. */
public final class ExtremesTest {
    private static final BigInteger MOST = BigInteger.TEN.pow(40).subtract(BigInteger.ONE);
    private static final BigInteger HALF = BigInteger.TEN.pow(20);

    private final Due due = new Due("ExtremesTest");
    private final Random random = new Random(40);

    public static void main(String[] args) {
        ExtremesTest test = new ExtremesTest();
        test.edgesOfFitting();
        test.divisionAtTheEdge();
        test.divisorsTooGreat();
        test.curvesWithGreatNumbers();
        for (int i = 0; i < 25; i++) {
            test.pair(test.dense(8), test.dense(8));
            test.pair(test.dense(1 + test.random.nextInt(8)), test.dense(1 + test.random.nextInt(8)));
            test.pair(test.sparse(8), test.sparse(1 + test.random.nextInt(8)));
            test.pair(test.signs(8), test.signs(8));
        }
        for (int i = 0; i < 60; i++) {
            test.unevenChain();
        }
        test.likeHadamard();
        for (int i = 0; i < 24; i++) {
            test.sharedFactor(1 + i % 6);
            test.repeatedFactor();
        }
        for (int i = 0; i < 20; i++) {
            test.nearRoots();
        }
        for (int i = 0; i < 1500; i++) {
            test.points(i % 9);
        }
        for (int i = 0; i < 4000; i++) {
            test.longDivision(i % 3 + 2);
        }
        for (int i = 0; i < 400; i++) {
            test.digitTakenBack();
        }
        test.due.end();
    }

    private BigInteger whole(int digits) {
        BigInteger n = new BigInteger(140, random).mod(BigInteger.TEN.pow(digits));
        return random.nextBoolean() ? n.negate() : n;
    }

    private BigInteger[] dense(int terms) {
        BigInteger[] p = new BigInteger[terms];
        for (int i = 0; i < terms; i++) {
            p[i] = whole(40);
        }
        return Model.trimmed(p);
    }

    private BigInteger[] sparse(int terms) {
        BigInteger[] p = Model.zeros(terms);
        p[terms - 1] = whole(40).setBit(0);
        p[random.nextInt(terms)] = whole(40);
        p[random.nextInt(terms)] = whole(1 + random.nextInt(40));
        return Model.trimmed(p);
    }

    private BigInteger[] signs(int terms) {
        BigInteger[] p = new BigInteger[terms];
        for (int i = 0; i < terms; i++) {
            p[i] = random.nextBoolean() ? MOST : MOST.negate();
        }
        return p;
    }

    /** Sets a polynomial of any coefficients of 40 digits by halves: the text takes but 30. */
    static void put(PolynomialBench desk, int place, BigInteger[] p) {
        BigInteger[] high = p.clone();
        BigInteger[] low = p.clone();
        for (int i = 0; i < p.length; i++) {
            high[i] = p[i].divide(HALF);
            low[i] = p[i].remainder(HALF);
        }
        Due.put(desk, place, Model.write(Model.trimmed(high)));
        desk.scale(place, 10_000_000_000L, place);
        desk.scale(place, 10_000_000_000L, place);
        int helper = place == 7 ? 6 : 7;
        Due.put(desk, helper, Model.write(Model.trimmed(low)));
        desk.add(place, helper, place);
    }

    /** Resultants, discriminants, divisors and checks of two polynomials. */
    private void pair(BigInteger[] a, BigInteger[] b) {
        PolynomialBench desk = new PolynomialBench();
        put(desk, 0, a);
        put(desk, 1, b);
        due.text("write", Due.show(desk, 0), Model.write(a));
        due.text("write", Due.show(desk, 1), Model.write(b));
        BigInteger r = Model.resultantOf(a, b);
        due.same("resultant", desk.resultant(0, 1), r.signum());
        due.text("resultant of " + Model.write(a) + " and " + Model.write(b), Due.page(desk), r.toString());
        BigInteger back = Model.resultantOf(b, a);
        due.same("resultant", desk.resultant(1, 0), back.signum());
        due.text("resultant", Due.page(desk), back.toString());
        if (a.length > 1) {
            BigInteger d = Model.resultantOf(a, Model.derivative(a)).divide(a[a.length - 1]);
            d = (a.length - 1) * (a.length - 2) / 2 % 2 == 1 ? d.negate() : d;
            due.same("discriminant", desk.discriminant(0), d.signum());
            due.text("discriminant of " + Model.write(a), Due.page(desk), d.toString());
        }
        if (a.length > 0) {
            due.same("roots of " + Model.write(a), desk.roots(0), Model.countRoots(a, null));
            due.same("wholeRoots", desk.wholeRoots(0), Model.allWholeRoots(a).size());
        }
        due.same("errors", desk.errors(0, 1), 0);
        BigInteger[] g = Model.greatest(a, b);
        due.same("gcd", desk.gcd(0, 1, 2), g.length - 1);
        due.text("gcd", Due.show(desk, 2), Model.write(g));
    }

    /** Two polynomials whose chain of rests skips degrees anywhere: built from its end. */
    private void unevenChain() {
        BigInteger[] lower = {whole(5).setBit(0)};
        BigInteger[] upper = {whole(5), whole(5).setBit(0)};
        while (upper.length < 8) {
            BigInteger[] factor = Model.zeros(1 + Math.min(1 + random.nextInt(3), 8 - upper.length));
            for (int i = 0; i < factor.length; i++) {
                factor[i] = whole(4).setBit(0);
            }
            BigInteger[] next = Model.sum(Model.product(upper, factor), lower, random.nextBoolean() ? 1 : -1);
            lower = upper;
            upper = next;
        }
        pair(upper, lower);
        pair(Model.sum(upper, lower, -7), upper);
    }

    private void likeHadamard() {
        // Rows of 1 and -1 whose determinants come near to the bound.
        String[] rows = {"+++-++--", "+-++-+++", "++-+--++", "+++++-+-"};
        for (String one : rows) {
            for (String other : rows) {
                BigInteger[] a = new BigInteger[8];
                BigInteger[] b = new BigInteger[8];
                for (int i = 0; i < 8; i++) {
                    a[i] = one.charAt(i) == '+' ? MOST : MOST.negate();
                    b[7 - i] = other.charAt(i) == '+' ? MOST.negate() : MOST;
                }
                pair(a, b);
            }
        }
    }

    private void sharedFactor(int degree) {
        BigInteger[] g = new BigInteger[degree + 1];
        BigInteger[] a = new BigInteger[8 - degree];
        BigInteger[] b = new BigInteger[8 - degree];
        int digits = 5 + random.nextInt(30);
        for (int i = 0; i < 8; i++) {
            if (i <= degree) {
                g[i] = whole(digits).setBit(0);
            }
            if (i < 8 - degree) {
                a[i] = whole(38 - digits).setBit(0);
                b[i] = whole(38 - digits).setBit(0);
            }
        }
        pair(Model.product(a, g), Model.product(b, g));
    }

    private void repeatedFactor() {
        int times = 2 + random.nextInt(3);
        BigInteger[] f = {whole(36 / times - 1).setBit(0), whole(36 / times - 1).setBit(0)};
        BigInteger[] p = {whole(1).setBit(0)};
        for (int i = 0; i < times; i++) {
            p = Model.product(p, f);
        }
        p = Model.product(p, new BigInteger[] {whole(2).setBit(0), whole(1), BigInteger.ONE});
        PolynomialBench desk = new PolynomialBench();
        put(desk, 0, p);
        due.text("write", Due.show(desk, 0), Model.write(p));
        for (int t = 1; t < 8; t++) {
            BigInteger[] part = Model.partOf(p, t);
            due.same("part", desk.part(0, t, 1), part.length - 1);
            due.text("part " + t + " of " + Model.write(p), Due.show(desk, 1), Model.write(part));
        }
        due.same("roots", desk.roots(0), Model.countRoots(p, null));
        due.same("errors", desk.errors(0, 1), 0);
        pair(p, Model.product(f, new BigInteger[] {BigInteger.TWO, BigInteger.ONE}));
    }

    /** Roots of fractions that lie close together, each in its box. */
    private void nearRoots() {
        BigInteger[] p = {BigInteger.ONE};
        double[] due7 = new double[7];
        int[] over = new int[7];
        for (int i = 0; i < 7; i++) {
            int under = 997;
            over[i] = 997 * 3 + 2 * i + random.nextInt(2);
            due7[i] = (double) over[i] / under;
            p = Model.product(p, new BigInteger[] {BigInteger.valueOf(-over[i]), BigInteger.valueOf(under)});
        }
        PolynomialBench desk = new PolynomialBench();
        put(desk, 0, p);
        due.same("roots", desk.roots(0), 7);
        for (int i = 0; i < 7; i++) {
            due.same("rootsUpTo", desk.rootsUpTo(0, over[i], 997), i + 1);
            due.same("rootsUpTo", desk.rootsUpTo(0, over[i] - 1, 997), i > 0 && over[i - 1] > over[i] - 1 ? i + 1 : i);
            int m = desk.box(0, i, 8);
            due.is("box", (long) over[i] * 256 > (long) m * 997 && (long) over[i] * 256 <= (long) (m + 1) * 997, true);
        }
        due.same("errors", desk.errors(0, 0), 0);
    }

    /** A number of parts of nine digits near the edges at which a guessed digit of a division is too great. */
    private BigInteger edgy(int parts) {
        long[] edges = {0, 1, 2, 499_999_999, 500_000_000, 500_000_001, 999_999_998, 999_999_999};
        BigInteger n = BigInteger.valueOf(1 + random.nextInt(9999));
        for (int i = 0; i < parts; i++) {
            long part = random.nextInt(4) == 0 ? random.nextInt(1_000_000_000) : edges[random.nextInt(edges.length)];
            n = i == 0 && random.nextBoolean() ? BigInteger.valueOf(Math.max(part, 1))
                    : n.multiply(BigInteger.valueOf(1_000_000_000)).add(BigInteger.valueOf(part));
        }
        return n;
    }

    /** The first division leaves a rest that the next ones build on: a wrong digit shows in the end. */
    private void longDivision(int parts) {
        BigInteger by = edgy(parts);
        BigInteger over = edgy(4);
        if (random.nextBoolean()) {
            // A multiple, and a bit less: the guess is for the multiple.
            BigInteger most = MOST.divide(by).min(BigInteger.valueOf(999_999_999));
            over = by.multiply(most.subtract(BigInteger.valueOf(random.nextInt(3)).min(most)));
            over = over.subtract(BigInteger.valueOf(random.nextInt(2))).max(BigInteger.ONE);
        }
        divideWholes(over, by);
    }

    /**
     * The two first parts of the divisor go into the dividend once more than all three do. Both are multiples of
     * another number, which a wrong rest is not.
     */
    private void digitTakenBack() {
        BigInteger base = BigInteger.valueOf(1_000_000_000);
        BigInteger shared = BigInteger.valueOf(7919);
        BigInteger low = BigInteger.valueOf(10_000 + random.nextInt(999_990_000));
        BigInteger high = BigInteger.valueOf(500_000_000 + random.nextInt(500_000_000)).multiply(base)
                .add(BigInteger.valueOf(random.nextInt(3))).multiply(base);
        low = low.subtract(high.add(low).mod(shared));
        BigInteger digit = BigInteger.valueOf(10_000 + random.nextInt(999_990_000));
        BigInteger over = high.multiply(digit).add(shared).add(new BigInteger(70, random).mod(digit.multiply(low)));
        divideWholes(over.subtract(over.mod(shared)), high.add(low));
    }

    private void divideWholes(BigInteger over, BigInteger by) {
        PolynomialBench desk = new PolynomialBench();
        BigInteger[] p = {over, by};
        put(desk, 0, p);
        desk.writeContent(0);
        due.text("content of " + Model.write(p), Due.page(desk), Model.content(p).toString());
        put(desk, 1, new BigInteger[] {over});
        put(desk, 2, new BigInteger[] {by});
        due.is("divides " + by + " " + over, desk.divides(2, 1), over.mod(by).signum() == 0);
        BigInteger whole = over.subtract(over.mod(by));
        put(desk, 1, Model.trimmed(new BigInteger[] {whole, by}));
        desk.primitive(1, 3);
        BigInteger[] parted = Model.trimmed(new BigInteger[] {whole.divide(by), BigInteger.ONE});
        due.text("primitive of " + whole + " and " + by, Due.show(desk, 3), Model.write(parted));
    }

    /** With few points far apart, and with many near ones, d comes on both sides of 2^63. */
    private void points(int count) {
        int[] xs = new int[count];
        int[] ys = new int[count];
        int reach = 4 + random.nextInt(47);
        for (int i = 0; i < count; i++) {
            xs[i] = random.nextInt(2 * reach + 1) - reach;
            ys[i] = random.nextInt(2_000_001) - 1_000_000;
        }
        curve(xs, ys);
    }

    /** Numbers d of 2^63 to 10^19, just below, of 20 digits, of 28 and of 31. */
    private void curvesWithGreatNumbers() {
        curve(new int[] {-43, 27, -19, -46, 45, -5, -39, -29},
            new int[] {404711, -621377, -598246, -606737, 889046, 703251, 721938, 351946});
        curve(new int[] {-29, 34, -16, 32, 41, -13, 8, 39},
            new int[] {-324714, 41222, -6431, -760525, -950435, -345679, -189331, -279959});
        curve(new int[] {13, 20, -21, -6, 36, -22, 47, 8},
            new int[] {997001, -392284, 943025, -954933, -127208, 756528, 921557, 166969});
        curve(new int[] {-49, 4, 44, 34, 22, -46, -3, 3},
            new int[] {-156654, -409537, 964031, 382006, 877644, 574989, 404412, -961558});
        curve(new int[] {-4, 47, -24, 49, 43, -44, 6, -30},
            new int[] {292510, 448722, -862796, 750843, 235704, 571983, 714987, 673205});
    }

    private void curve(int[] xs, int[] ys) {
        PolynomialBench desk = new PolynomialBench();
        Model model = new Model();
        for (int i = 0; i < xs.length; i++) {
            try {
                model.addPoint(xs[i], ys[i]);
                desk.addPoint(xs[i], ys[i]);
            } catch (IllegalStateException e) {
                // This x is taken: a point less.
            }
        }
        String want;
        String got;
        try {
            want = model.interpolate(0) + " " + model.show(0);
        } catch (IllegalStateException e) {
            want = "too great";
        }
        try {
            got = desk.interpolate(0) + " " + Due.show(desk, 0);
        } catch (IllegalStateException e) {
            got = "too great";
        }
        due.text("interpolate", got, want);
    }

    private void edgesOfFitting() {
        BigInteger[] most = {MOST, MOST.negate(), MOST};
        PolynomialBench desk = new PolynomialBench();
        put(desk, 0, most);
        due.text("write", Due.show(desk, 0), Model.write(most));
        Due.put(desk, 1, "1");
        due.thrown("add", desk, IllegalStateException.class, () -> desk.add(0, 1, 2));
        due.thrown("add to itself", desk, IllegalStateException.class, () -> desk.add(0, 1, 0));
        due.same("subtract", desk.subtract(0, 1, 2), 2);
        due.same("add", desk.add(2, 1, 2), 2);
        due.is("isSame", desk.isSame(0, 2), true);
        due.thrown("scale", desk, IllegalStateException.class, () -> desk.scale(0, -2, 2));
        due.thrown("scale", desk, IllegalStateException.class, () -> desk.scale(0, Long.MIN_VALUE, 2));
        due.thrown("multiply", desk, IllegalStateException.class, () -> desk.multiply(0, 0, 2));
        due.thrown("slope", desk, IllegalStateException.class, () -> desk.slope(0, 2));
        due.thrown("compose", desk, IllegalStateException.class, () -> desk.compose(0, 0, 2));
        due.same("length", desk.length(0, 2), MOST.bitLength());
        due.same("negative", desk.scale(0, -1, 2), 2);
        Due.put(desk, 3, "x+10000000000");
        due.same("10^40 does not fit", desk.power(3, 3, 4), 3);
        due.thrown("power", desk, IllegalStateException.class, () -> desk.power(3, 4, 4));
        Due.put(desk, 3, "x+9999999999");
        due.same("power", desk.power(3, 4, 4), 4);
        Due.put(desk, 5, "100000000000000000000");
        due.thrown("multiply", desk, IllegalStateException.class, () -> desk.multiply(5, 5, 5));
        Due.put(desk, 6, "99999999999999999999");
        due.same("multiply", desk.multiply(5, 6, 6), 0);
        due.text("write", Due.show(desk, 6), "9999999999999999999900000000000000000000");
    }

    private static BigInteger[] line(long times, long less) {
        return new BigInteger[] {BigInteger.valueOf(-less), BigInteger.valueOf(times)};
    }

    private static BigInteger[] small(long... coefficients) {
        BigInteger[] p = new BigInteger[coefficients.length];
        for (int i = 0; i < p.length; i++) {
            p[i] = BigInteger.valueOf(coefficients[i]);
        }
        return p;
    }

    /** Divisors can have greater coefficients than what they divide: here 41 digits, of polynomials with 40. */
    private void divisorsTooGreat() {
        BigInteger a = new BigInteger("90000000000000000001");
        BigInteger b = new BigInteger("90000000000000000000");
        BigInteger[] line = {b.negate(), a};
        BigInteger[] square = Model.product(line, line);
        PolynomialBench desk = new PolynomialBench();
        put(desk, 0, Model.product(square, small(1, 1, 1)));
        put(desk, 1, Model.product(square, small(1, 1)));
        due.thrown("a greatest divisor too great", desk, IllegalStateException.class, () -> desk.gcd(0, 1, 2));
        due.thrown("without a place", desk, IndexOutOfBoundsException.class, () -> desk.gcd(0, 1, 8));
        due.same("errors", desk.errors(0, 1), 0);
        due.same("resultant", desk.resultant(0, 1), 0);
        due.same("roots", desk.roots(0), 1);
        due.same("box", desk.box(0, 0, 8), 255);
        BigInteger[] three = Model.product(line(15870000000001L, 15870000000000L),
                Model.product(line(15870000000003L, 15870000000002L), line(15870000000007L, 15870000000011L)));
        put(desk, 2, Model.product(three, small(1, 2, 1)));
        due.thrown("a part too great", desk, IllegalStateException.class, () -> desk.part(2, 1, 3));
        due.thrown("a part out of range", desk, IllegalArgumentException.class, () -> desk.part(2, 0, 3));
        due.same("part", desk.part(2, 2, 3), 1);
        due.text("part", Due.show(desk, 3), "x+1");
        due.same("roots", desk.roots(2), 4);
        due.same("errors", desk.errors(2, 1), 0);
    }

    private void divisionAtTheEdge() {
        PolynomialBench desk = new PolynomialBench();
        put(desk, 0, new BigInteger[] {MOST, MOST, MOST, MOST});
        put(desk, 1, new BigInteger[] {BigInteger.ONE, BigInteger.ONE});
        due.same("divide", desk.divide(0, 1, 2, 3), 3);
        due.text("quotient", Due.show(desk, 2), Model.write(new BigInteger[] {MOST, BigInteger.ZERO, MOST}));
        due.text("rest", Due.show(desk, 3), "0");
        put(desk, 1, new BigInteger[] {BigInteger.ONE, BigInteger.TWO});
        due.thrown("a quotient too great", desk, IllegalStateException.class, () -> desk.divide(0, 1, 2, 3));
        put(desk, 1, new BigInteger[] {MOST, BigInteger.ONE});
        due.thrown("a rest too great", desk, IllegalStateException.class, () -> desk.divide(0, 1, 2, 3));
        put(desk, 1, new BigInteger[] {MOST, MOST, BigInteger.ZERO, BigInteger.ZERO, MOST});
        due.same("nothing to divide", desk.divide(0, 1, 2, 3), 0);
        due.is("the rest is the dividend", desk.isSame(0, 3), true);
        due.same("the quotient is 0", desk.degree(2), -1);
        due.is("divides", desk.divides(0, 1), false);
    }
}
