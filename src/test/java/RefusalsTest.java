import java.math.BigInteger;
import java.util.NoSuchElementException;
import java.util.function.Consumer;
import java.util.function.Supplier;

/**
 * Each exception that the document lists for a call: it is thrown at the first argument that is wrong, goes ahead
 * of those that are listed behind it, and leaves the page, the places, the changes, the points and the text.
 */
public final class RefusalsTest {
    private static final BigInteger MOST = BigInteger.TEN.pow(40).subtract(BigInteger.ONE);
    private static final BigInteger ONE = BigInteger.ONE;
    private static final Class<NoSuchElementException> NOTHING = NoSuchElementException.class;
    private static final int[] NO_EXPONENTS = {-1, 8, Integer.MIN_VALUE, Integer.MAX_VALUE};

    private static final Due DUE = new Due("RefusalsTest");

    /** A call with a place that does not exist. */
    private interface WithPlace {
        void on(PolynomialBench desk, int place);
    }

    /** A call with a fraction that is out of range. */
    private interface WithFraction {
        void on(PolynomialBench desk, int place, long over, int under);
    }

    public static void main(String[] args) {
        type();
        read();
        set();
        page();
        looks();
        coefficient();
        sums();
        products();
        power();
        compose();
        slope();
        divide();
        gcd();
        part();
        fractions();
        roots();
        box();
        wholeRoot();
        modulo();
        points();
        interpolate();
        newDesk();
        DUE.end();
    }

    /** More than eight changes, three points, a text and a page. */
    private static PolynomialBench busy() {
        PolynomialBench desk = new PolynomialBench();
        BigInteger[] great = Model.zeros(8);
        great[7] = MOST;
        great[0] = MOST.negate();
        ExtremesTest.put(desk, 2, great);
        desk.scale(7, 0, 7);
        Due.put(desk, 0, "x^2-2");
        Due.put(desk, 1, "-6x^3+9x-12");
        Due.put(desk, 3, "x-501");
        Due.put(desk, 4, "x^4");
        Due.put(desk, 5, "1000000x");
        Due.put(desk, 6, "5");
        desk.clearText();
        Due.type(desk, "3x^2 - 1");
        desk.addPoint(-50, 1000000);
        desk.addPoint(3, -7);
        desk.addPoint(50, 2);
        desk.writeContent(1);
        return desk;
    }

    /** The busy desk with something done to it. */
    private static Supplier<PolynomialBench> busyWith(Consumer<PolynomialBench> more) {
        return () -> {
            PolynomialBench desk = busy();
            more.accept(desk);
            return desk;
        };
    }

    private static Supplier<PolynomialBench> withText(String text) {
        return busyWith(desk -> {
            desk.clearText();
            Due.type(desk, text);
        });
    }

    private static Supplier<PolynomialBench> withPlace(int place, BigInteger... polynomial) {
        return busyWith(desk -> ExtremesTest.put(desk, place, polynomial));
    }

    private static void refused(String what, Class<?> want, Consumer<PolynomialBench> call) {
        DUE.refused(what, RefusalsTest::busy, want, call);
    }

    private static void noPlace(String what, WithPlace call) {
        noPlace(what, RefusalsTest::busy, call);
    }

    private static void noPlace(String what, Supplier<PolynomialBench> scene, WithPlace call) {
        for (int place : Due.NO_PLACES) {
            DUE.refused(what + " with the place " + place, scene, Due.PLACE, desk -> call.on(desk, place));
        }
    }

    /** The call throws wherever its result would be put. */
    private static void everywhere(String what, Supplier<PolynomialBench> scene, Class<?> want, WithPlace call) {
        for (int place = 0; place < 8; place++) {
            int to = place;
            DUE.refused(what + " to the place " + to, scene, want, desk -> call.on(desk, to));
        }
        noPlace(what, scene, call);
    }

    private static void type() {
        Supplier<PolynomialBench> full = withText("7".repeat(300));
        DUE.same("a full text", full.get().type(0), 300);
        for (long bytes : new long[] {1, 255, 256, Integer.MAX_VALUE, Long.MAX_VALUE, Long.MIN_VALUE, -1}) {
            DUE.refused("type " + bytes + " behind a full text", full, Due.STATE, desk -> desk.type(bytes));
        }
        for (int room = 0; room < 8; room++) {
            Supplier<PolynomialBench> scene = withText("7".repeat(300 - room));
            long more = 0x3132333435363738L >>> 8 * (7 - room);
            DUE.refused("type one byte more than " + room, scene, Due.STATE, desk -> desk.type(more));
            long zerosBehind = more << 8 * (7 - room);
            DUE.refused("type one byte more than " + room, scene, Due.STATE, desk -> desk.type(zerosBehind));
            DUE.same("type as many as there is room for", scene.get().type(more >>> 7 >>> 1), 300);
        }
    }

    private static void read() {
        noPlace("read", (desk, place) -> desk.read(place));
        String[] wrong = {"", " ", "+", "x x", "x^", "5^2", "1x^8", "0".repeat(31), "7".repeat(300), " ".repeat(300),
            "x" + " ".repeat(298) + "?"};
        for (String text : wrong) {
            everywhere("read '" + text + "'", withText(text), Due.STATE, (desk, place) -> desk.read(place));
        }
    }

    private static void set() {
        noPlace("set", (desk, place) -> desk.set(place, 0, 1));
        for (int exponent : NO_EXPONENTS) {
            noPlace("set the exponent " + exponent, (desk, place) -> desk.set(place, exponent, 1));
            for (long coefficient : new long[] {0, 1, Long.MIN_VALUE, Long.MAX_VALUE}) {
                refused("set the exponent " + exponent, Due.RANGE, desk -> desk.set(0, exponent, coefficient));
                refused("set the exponent " + exponent, Due.RANGE, desk -> desk.set(7, exponent, coefficient));
            }
        }
    }

    private static void page() {
        noPlace("write", (desk, place) -> desk.write(place));
        noPlace("writeContent", (desk, place) -> desk.writeContent(place));
        for (int index : new int[] {-1, 1, 2, 8, 300, Integer.MIN_VALUE, Integer.MAX_VALUE}) {
            refused("pageAt " + index + " of one byte", Due.PLACE, desk -> desk.pageAt(index));
        }
    }

    private static void looks() {
        noPlace("degree", (desk, place) -> desk.degree(place));
        for (int exponent : new int[] {0, 7, -1, 8, Integer.MIN_VALUE, Integer.MAX_VALUE}) {
            noPlace("sign of " + exponent, (desk, place) -> desk.sign(place, exponent));
            noPlace("length of " + exponent, (desk, place) -> desk.length(place, exponent));
        }
        noPlace("isSame, one", (desk, place) -> desk.isSame(place, 0));
        noPlace("isSame, other", (desk, place) -> desk.isSame(0, place));
        noPlace("isSame, both", (desk, place) -> desk.isSame(place, place));
        noPlace("divides, one", (desk, place) -> desk.divides(place, 7));
        noPlace("divides, other", (desk, place) -> desk.divides(7, place));
        noPlace("resultant, one", (desk, place) -> desk.resultant(place, 7));
        noPlace("resultant, other", (desk, place) -> desk.resultant(7, place));
        noPlace("discriminant", (desk, place) -> desk.discriminant(place));
        noPlace("errors, one", (desk, place) -> desk.errors(place, 7));
        noPlace("errors, other", (desk, place) -> desk.errors(7, place));
    }

    private static void coefficient() {
        for (int exponent : new int[] {0, 7, -1, 8, Integer.MIN_VALUE, Integer.MAX_VALUE}) {
            noPlace("coefficient of " + exponent, (desk, place) -> desk.coefficient(place, exponent, 2));
            for (int modulus : new int[] {1, 0, -1, -2, Integer.MIN_VALUE}) {
                String what = "coefficient of " + exponent + " by " + modulus;
                noPlace(what, (desk, place) -> desk.coefficient(place, exponent, modulus));
                refused(what, Due.RANGE, desk -> desk.coefficient(2, exponent, modulus));
                refused(what + ", of 0", Due.RANGE, desk -> desk.coefficient(7, exponent, modulus));
            }
        }
    }

    private static void sums() {
        noPlace("copy, one", (desk, place) -> desk.copy(place, 0));
        noPlace("copy, to", (desk, place) -> desk.copy(0, place));
        noPlace("primitive, one", (desk, place) -> desk.primitive(place, 0));
        noPlace("primitive, to", (desk, place) -> desk.primitive(0, place));
        noPlace("add, one", (desk, place) -> desk.add(place, 2, 0));
        noPlace("add, other", (desk, place) -> desk.add(2, place, 0));
        noPlace("add, to", (desk, place) -> desk.add(0, 0, place));
        noPlace("subtract, one", (desk, place) -> desk.subtract(place, 2, 0));
        noPlace("subtract, other", (desk, place) -> desk.subtract(2, place, 0));
        noPlace("subtract, to", (desk, place) -> desk.subtract(0, 0, place));
        Supplier<PolynomialBench> opposite = busyWith(desk -> desk.scale(2, -1, 6));
        everywhere("add", RefusalsTest::busy, Due.STATE, (desk, place) -> desk.add(2, 2, place));
        everywhere("add below 0", opposite, Due.STATE, (desk, place) -> desk.add(6, 6, place));
        everywhere("subtract", opposite, Due.STATE, (desk, place) -> desk.subtract(2, 6, place));
        everywhere("subtract below 0", opposite, Due.STATE, (desk, place) -> desk.subtract(6, 2, place));
    }

    private static void products() {
        noPlace("multiply, one", (desk, place) -> desk.multiply(place, 2, 0));
        noPlace("multiply, other", (desk, place) -> desk.multiply(2, place, 0));
        noPlace("multiply, to", (desk, place) -> desk.multiply(0, 0, place));
        noPlace("scale, one", (desk, place) -> desk.scale(place, 2, 0));
        noPlace("scale, to", (desk, place) -> desk.scale(0, 2, place));
        Supplier<PolynomialBench> busy = RefusalsTest::busy;
        everywhere("multiply to the degree 8", busy, Due.STATE, (desk, place) -> desk.multiply(4, 4, place));
        everywhere("multiply to 41 digits", busy, Due.STATE, (desk, place) -> desk.multiply(2, 6, place));
        everywhere("multiply to 41 digits", busy, Due.STATE, (desk, place) -> desk.multiply(6, 2, place));
        everywhere("multiply to both", busy, Due.STATE, (desk, place) -> desk.multiply(2, 2, place));
        for (long factor : new long[] {2, -2, 10, Long.MIN_VALUE, Long.MAX_VALUE}) {
            everywhere("scale by " + factor, busy, Due.STATE, (desk, place) -> desk.scale(2, factor, place));
        }
    }

    private static void power() {
        Supplier<PolynomialBench> busy = RefusalsTest::busy;
        everywhere("power to the degree 8", busy, Due.STATE, (desk, place) -> desk.power(4, 2, place));
        everywhere("power to the degree 49", busy, Due.STATE, (desk, place) -> desk.power(2, 7, place));
        everywhere("power to 43 digits", busy, Due.STATE, (desk, place) -> desk.power(5, 7, place));
        noPlace("power, one", (desk, place) -> desk.power(place, 7, 0));
        for (int exponent : NO_EXPONENTS) {
            for (int one : new int[] {0, 2, 4, 6, 7}) {
                everywhere("power " + exponent, busy, Due.RANGE,
                        (desk, place) -> desk.power(one, exponent, place));
            }
            noPlace("power " + exponent + ", one", (desk, place) -> desk.power(place, exponent, 0));
        }
    }

    private static void compose() {
        Supplier<PolynomialBench> busy = RefusalsTest::busy;
        everywhere("compose to the degree 8", busy, Due.STATE, (desk, place) -> desk.compose(0, 4, place));
        everywhere("compose to the degree 49", busy, Due.STATE, (desk, place) -> desk.compose(2, 2, place));
        everywhere("compose to 41 digits", busy, Due.STATE, (desk, place) -> desk.compose(2, 6, place));
        everywhere("compose to 80 digits", withPlace(6, MOST), Due.STATE, (desk, place) -> desk.compose(0, 6, place));
        noPlace("compose, one", (desk, place) -> desk.compose(place, 4, 0));
        noPlace("compose, other", (desk, place) -> desk.compose(4, place, 0));
    }

    private static void slope() {
        everywhere("slope", RefusalsTest::busy, Due.STATE, (desk, place) -> desk.slope(2, place));
        noPlace("slope, one", (desk, place) -> desk.slope(place, 0));
    }

    private static void divide() {
        Supplier<PolynomialBench> busy = RefusalsTest::busy;
        // Quotient and rest have 41 digits and more: both, the rest alone, the quotient alone.
        everywhere("divide, both", busy, Due.STATE, (desk, place) -> desk.divide(2, 5, place, (place + 3) % 8));
        Supplier<PolynomialBench> rest = withPlace(3, MOST, ONE);
        everywhere("divide, rest", rest, Due.STATE, (desk, place) -> desk.divide(0, 3, place, (place + 1) % 8));
        everywhere("divide, rest", rest, Due.STATE, (desk, place) -> desk.divide(0, 3, (place + 1) % 8, place));
        Supplier<PolynomialBench> quotient = withPlace(3, BigInteger.ZERO, MOST);
        everywhere("divide, quotient", quotient, Due.STATE, (desk, place) -> desk.divide(3, 6, place, (place + 5) % 8));
        everywhere("divide, quotient", quotient, Due.STATE, (desk, place) -> desk.divide(3, 6, (place + 5) % 8, place));
        for (int place = 0; place < 8; place++) {
            int both = place;
            refused("divide to one place", Due.RANGE, desk -> desk.divide(0, 3, both, both));
            refused("divide to one place, too great", Due.RANGE, desk -> desk.divide(2, 5, both, both));
            refused("divide to one place, by 0", Due.RANGE, desk -> desk.divide(2, 7, both, both));
        }
        noPlace("divide, one", (desk, place) -> desk.divide(place, 5, 0, 0));
        noPlace("divide, by", (desk, place) -> desk.divide(2, place, 0, 0));
        noPlace("divide, quotient", (desk, place) -> desk.divide(2, 5, place, 0));
        noPlace("divide, rest", (desk, place) -> desk.divide(2, 5, 0, place));
        noPlace("divide, quotient and rest", (desk, place) -> desk.divide(2, 5, place, place));
        noPlace("divide by 0, one", (desk, place) -> desk.divide(place, 7, 0, 1));
        noPlace("divide by 0, quotient", (desk, place) -> desk.divide(0, 7, place, 1));
        noPlace("divide by 0, rest", (desk, place) -> desk.divide(0, 7, 1, place));
        noPlace("divide by 0, quotient and rest", (desk, place) -> desk.divide(0, 7, place, place));
    }

    private static void gcd() {
        BigInteger[] line = {new BigInteger("-90000000000000000000"), new BigInteger("90000000000000000001")};
        BigInteger[] square = Model.product(line, line);
        Supplier<PolynomialBench> scene = busyWith(desk -> {
            ExtremesTest.put(desk, 0, Model.product(square, new BigInteger[] {ONE, ONE, ONE}));
            ExtremesTest.put(desk, 1, Model.product(square, new BigInteger[] {ONE, ONE}));
        });
        // The greatest divisor has 41 digits, the two polynomials have 40.
        everywhere("gcd", scene, Due.STATE, (desk, place) -> desk.gcd(0, 1, place));
        everywhere("gcd", scene, Due.STATE, (desk, place) -> desk.gcd(1, 0, place));
        noPlace("gcd, one", scene, (desk, place) -> desk.gcd(place, 1, 0));
        noPlace("gcd, other", scene, (desk, place) -> desk.gcd(0, place, 0));
        noPlace("gcd of 0", (desk, place) -> desk.gcd(7, 7, place));
    }

    private static void part() {
        long[][] lines = {{15870000000001L, -15870000000000L}, {15870000000003L, -15870000000002L},
            {15870000000007L, -15870000000011L}};
        BigInteger[] product = {ONE, BigInteger.TWO, ONE};
        for (long[] line : lines) {
            product = Model.product(product, new BigInteger[] {BigInteger.valueOf(line[1]), BigInteger.valueOf(line[0])});
        }
        Supplier<PolynomialBench> scene = withPlace(2, product);
        everywhere("part of 41 digits", scene, Due.STATE, (desk, place) -> desk.part(2, 1, place));
        for (int times : new int[] {0, 8, -1, Integer.MIN_VALUE, Integer.MAX_VALUE}) {
            everywhere("part " + times, scene, Due.RANGE, (desk, place) -> desk.part(2, times, place));
            everywhere("part " + times + " of 0", RefusalsTest::busy, Due.RANGE,
                    (desk, place) -> desk.part(7, times, place));
            noPlace("part " + times + ", one", (desk, place) -> desk.part(place, times, 0));
        }
        for (int times = 1; times <= 7; times++) {
            int often = times;
            everywhere("part of 0", RefusalsTest::busy, Due.STATE, (desk, place) -> desk.part(7, often, place));
            noPlace("part, one", (desk, place) -> desk.part(place, often, 0));
        }
    }

    private static void fractions() {
        wrongFraction("signAt", (desk, place, over, under) -> desk.signAt(place, over, under));
        wrongFraction("value", (desk, place, over, under) -> desk.value(place, over, under));
        wrongFraction("rootsUpTo", (desk, place, over, under) -> desk.rootsUpTo(place, over, under));
        // A polynomial that is 0 is told behind a fraction that is out of range.
        refused("rootsUpTo of 0", Due.STATE, desk -> desk.rootsUpTo(7, 1000000, 1000));
        refused("rootsUpTo of 0", Due.STATE, desk -> desk.rootsUpTo(7, -1000000, 1));
    }

    private static void wrongFraction(String what, WithFraction call) {
        noPlace(what, (desk, place) -> call.on(desk, place, 1, 1));
        long[] overs = {-1000001, 1000001, 1L << 32, -(1L << 32), (1L << 32) + 1, Integer.MIN_VALUE, Integer.MAX_VALUE,
            Long.MIN_VALUE, Long.MAX_VALUE};
        for (long over : overs) {
            for (int under : new int[] {1, 1000, 0}) {
                refused(what + " " + over, Due.RANGE, desk -> call.on(desk, 0, over, under));
                refused(what + " " + over + " of 0", Due.RANGE, desk -> call.on(desk, 7, over, under));
                noPlace(what + " " + over, (desk, place) -> call.on(desk, place, over, under));
            }
        }
        for (int under : new int[] {0, 1001, -1, Integer.MIN_VALUE, Integer.MAX_VALUE}) {
            for (long over : new long[] {0, 1000000, -1000000}) {
                refused(what + " /" + under, Due.RANGE, desk -> call.on(desk, 0, over, under));
                refused(what + " /" + under + " of 0", Due.RANGE, desk -> call.on(desk, 7, over, under));
                noPlace(what + " /" + under, (desk, place) -> call.on(desk, place, over, under));
            }
        }
    }

    private static void roots() {
        noPlace("roots", (desk, place) -> desk.roots(place));
        refused("roots of 0", Due.STATE, desk -> desk.roots(7));
        noPlace("wholeRoots", (desk, place) -> desk.wholeRoots(place));
        refused("wholeRoots of 0", Due.STATE, desk -> desk.wholeRoots(7));
    }

    private static void box() {
        int[] noDigits = {-1, 9, 31, 32, 40, Integer.MIN_VALUE, Integer.MAX_VALUE};
        noPlace("box", (desk, place) -> desk.box(place, 0, 0));
        for (int digits : new int[] {0, 8, -1, 9, Integer.MIN_VALUE, Integer.MAX_VALUE}) {
            noPlace("box", (desk, place) -> desk.box(place, 0, digits));
            noPlace("box", (desk, place) -> desk.box(place, -1, digits));
            for (int root : new int[] {-1, 2, 7, 8, Integer.MIN_VALUE, Integer.MAX_VALUE}) {
                refused("box of no root " + root, Due.PLACE, desk -> desk.box(0, root, digits));
                refused("box of no far root " + root, Due.PLACE, desk -> desk.box(3, root, digits));
            }
            for (int root : new int[] {0, 1, -1}) {
                refused("box of a number", Due.PLACE, desk -> desk.box(6, root, digits));
                refused("box of 0", Due.PLACE, desk -> desk.box(7, root, digits));
            }
        }
        for (int digits : noDigits) {
            refused("box with " + digits + " digits", Due.RANGE, desk -> desk.box(0, 0, digits));
            refused("box with " + digits + " digits", Due.RANGE, desk -> desk.box(0, 1, digits));
            refused("box far out with " + digits + " digits", Due.RANGE, desk -> desk.box(3, 0, digits));
        }
        Supplier<PolynomialBench> below = withPlace(0, BigInteger.valueOf(500), ONE);
        for (int digits = 0; digits <= 8; digits++) {
            int now = digits;
            refused("box of 501", Due.STATE, desk -> desk.box(3, 0, now));
            DUE.refused("box of -500", below, Due.STATE, desk -> desk.box(0, 0, now));
        }
    }

    private static void wholeRoot() {
        for (int index : new int[] {0, 1, -1, 7, 8, Integer.MIN_VALUE, Integer.MAX_VALUE}) {
            noPlace("wholeRoot " + index, (desk, place) -> desk.wholeRoot(place, index));
            refused("wholeRoot " + index + " of 0", Due.STATE, desk -> desk.wholeRoot(7, index));
            refused("wholeRoot " + index + " without any", NOTHING, desk -> desk.wholeRoot(0, index));
            refused("wholeRoot " + index + " of a number", NOTHING, desk -> desk.wholeRoot(6, index));
            if (index != 0) {
                refused("wholeRoot " + index + " of one", NOTHING, desk -> desk.wholeRoot(4, index));
            }
        }
    }

    private static void modulo() {
        noPlace("rootsModulo", (desk, place) -> desk.rootsModulo(place, 1));
        for (int modulus : new int[] {0, 1001, -1, Integer.MIN_VALUE, Integer.MAX_VALUE}) {
            noPlace("rootsModulo " + modulus, (desk, place) -> desk.rootsModulo(place, modulus));
            for (int place = 0; place < 8; place++) {
                int of = place;
                refused("rootsModulo " + modulus, Due.RANGE, desk -> desk.rootsModulo(of, modulus));
            }
        }
    }

    private static void points() {
        int[] noX = {-51, 51, Integer.MIN_VALUE, Integer.MAX_VALUE};
        int[] noY = {-1000001, 1000001, Integer.MIN_VALUE, Integer.MAX_VALUE};
        Supplier<PolynomialBench> full = busyWith(desk -> {
            for (int x = 10; x < 15; x++) {
                desk.addPoint(x, x * x * x);
            }
        });
        for (int x : noX) {
            for (int y : new int[] {0, 1000000, 1000001}) {
                refused("addPoint " + x, Due.RANGE, desk -> desk.addPoint(x, y));
                DUE.refused("addPoint " + x + ", full", full, Due.RANGE, desk -> desk.addPoint(x, y));
            }
        }
        for (int y : noY) {
            for (int x : new int[] {0, 3, 50, -50}) {
                refused("addPoint, y " + y, Due.RANGE, desk -> desk.addPoint(x, y));
                DUE.refused("addPoint, y " + y + ", full", full, Due.RANGE, desk -> desk.addPoint(x, y));
            }
        }
        for (int x : new int[] {-50, 3, 50}) {
            refused("addPoint, this x again", Due.STATE, desk -> desk.addPoint(x, 5));
            refused("addPoint, this point again", Due.STATE, desk -> desk.addPoint(x, x == 3 ? -7 : 2));
        }
        for (int x = -50; x <= 50; x++) {
            int now = x;
            DUE.refused("addPoint, a ninth one", full, Due.STATE, desk -> desk.addPoint(now, 1));
        }
    }

    private static void interpolate() {
        noPlace("interpolate", (desk, place) -> desk.interpolate(place));
        noPlace("interpolate without points", busyWith(desk -> desk.clearPoints()), (desk, to) -> desk.interpolate(to));
        int[] xs = {-50, -37, -23, -3, 8, 21, 36, 50};
        int[] ys = {999983, -999979, 1, 2, 3, 5, 7, 11};
        Supplier<PolynomialBench> far = busyWith(desk -> {
            desk.clearPoints();
            for (int i = 0; i < xs.length; i++) {
                desk.addPoint(xs[i], ys[i]);
            }
        });
        everywhere("interpolate, d above 2^63 - 1", far, Due.STATE, (desk, place) -> desk.interpolate(place));
    }

    /** A refused call leaves a new desk new. */
    private static void newDesk() {
        Supplier<PolynomialBench> fresh = PolynomialBench::new;
        noPlace("copy on a new desk", fresh, (desk, place) -> desk.copy(place, 0));
        noPlace("interpolate on a new desk", fresh, (desk, place) -> desk.interpolate(place));
        for (int place = 0; place < 8; place++) {
            int of = place;
            DUE.refused("read on a new desk", fresh, Due.STATE, desk -> desk.read(of));
            DUE.refused("pageAt on a new desk", fresh, Due.PLACE, desk -> desk.pageAt(of));
            DUE.refused("roots on a new desk", fresh, Due.STATE, desk -> desk.roots(of));
            DUE.refused("rootsUpTo on a new desk", fresh, Due.STATE, desk -> desk.rootsUpTo(of, 0, 1));
            DUE.refused("box on a new desk", fresh, Due.PLACE, desk -> desk.box(of, 0, 0));
            DUE.refused("part on a new desk", fresh, Due.STATE, desk -> desk.part(of, 1, of));
            DUE.refused("wholeRoots on a new desk", fresh, Due.STATE, desk -> desk.wholeRoots(of));
            DUE.refused("wholeRoot on a new desk", fresh, Due.STATE, desk -> desk.wholeRoot(of, 0));
            DUE.refused("divide on a new desk", fresh, Due.RANGE, desk -> desk.divide(of, of, of, of));
        }
        DUE.refused("an x out of range on a new desk", fresh, Due.RANGE, desk -> desk.addPoint(-51, 0));
        DUE.refused("a y out of range on a new desk", fresh, Due.RANGE, desk -> desk.addPoint(0, -1000001));
    }
}
