import java.math.BigInteger;
import java.util.Arrays;

/** The promises 11 to 16, 40 to 42, 45 and 46: exponents that there are not, bits, moduli, points and their ends, means. */
public final class NumbersTest {
    private static final BigInteger ONE = BigInteger.ONE;
    private static final BigInteger MOST = BigInteger.TEN.pow(40).subtract(ONE);
    private static final int[] NO_EXPONENTS = {-1, 8, 9, Integer.MIN_VALUE, Integer.MAX_VALUE};

    private static final Due DUE = new Due("NumbersTest");

    public static void main(String[] args) {
        exponentsThatThereAreNot();
        leastAndGreatestLongs();
        moduli();
        greatCoefficientsByModuli();
        bits();
        sameOrNot();
        copies();
        pointsAtTheEnds();
        eightPoints();
        oneXOnce();
        clearedPoints();
        polynomialsThroughPoints();
        leastNumberD();
        numbersDNear2To63();
        means();
        DUE.end();
    }

    private static void exponentsThatThereAreNot() {
        PolynomialBench desk = Due.desk("-x^7-x^6-x^5-x^4-x^3-x^2-x-1", "3x", "-2");
        for (int place = 0; place < 8; place++) {
            for (int exponent : NO_EXPONENTS) {
                DUE.same("sign", desk.sign(place, exponent), 0);
                DUE.same("length", desk.length(place, exponent), 0);
                DUE.same("coefficient", desk.coefficient(place, exponent, 2), 0);
                DUE.same("coefficient", desk.coefficient(place, exponent, Integer.MAX_VALUE), 0);
            }
            for (int exponent = 0; exponent < 8; exponent++) {
                int due = place == 0 ? -1 : place == 1 && exponent == 1 ? 1 : place == 2 && exponent == 0 ? -1 : 0;
                DUE.same("sign", desk.sign(place, exponent), due);
            }
        }
    }

    private static void leastAndGreatestLongs() {
        long[] all = {Long.MIN_VALUE, Long.MIN_VALUE + 1, Integer.MIN_VALUE, -1_000_000_001, -1_000_000_000, -999_999_999,
            -1, 0, 1, 999_999_999, 1_000_000_000, 1_000_000_001, Integer.MAX_VALUE, 999_999_999_999_999_999L,
            1_000_000_000_000_000_000L, Long.MAX_VALUE - 1, Long.MAX_VALUE};
        PolynomialBench desk = new PolynomialBench();
        for (long number : all) {
            for (int exponent = 0; exponent < 8; exponent += 7) {
                DUE.same("set " + number, desk.set(exponent, exponent, number), number == 0 ? -1 : exponent);
                DUE.same("sign of " + number, desk.sign(exponent, exponent), Long.signum(number));
                DUE.same("bits of " + number, desk.length(exponent, exponent), BigInteger.valueOf(number).abs().bitLength());
                for (int modulus : new int[] {2, 3, 10, 999_999_999, 1_000_000_000, 1_000_000_001, Integer.MAX_VALUE}) {
                    DUE.same(number + " by " + modulus, desk.coefficient(exponent, exponent, modulus),
                        Math.floorMod(number, (long) modulus));
                }
            }
            DUE.text("write " + number, Due.show(desk, 0), "" + number);
        }
    }

    private static void moduli() {
        PolynomialBench desk = Due.desk("7x^2-7x", "-1");
        for (int modulus = 2; modulus < 20; modulus++) {
            DUE.same("7 by " + modulus, desk.coefficient(0, 2, modulus), 7 % modulus);
            DUE.same("-7 by " + modulus, desk.coefficient(0, 1, modulus), Math.floorMod(-7, modulus));
            DUE.same("0 by " + modulus, desk.coefficient(0, 0, modulus), 0);
        }
        DUE.same("-1 by 2", desk.coefficient(1, 0, 2), 1);
        DUE.same("-1 by the greatest one", desk.coefficient(1, 0, 2147483647), 2147483646);
        for (int modulus : new int[] {1, 0, -1, -2, Integer.MIN_VALUE}) {
            DUE.thrown("by " + modulus, desk, Due.RANGE, () -> desk.coefficient(0, 0, modulus));
            DUE.thrown("what there is not by " + modulus, desk, Due.RANGE, () -> desk.coefficient(0, 8, modulus));
        }
    }

    private static void greatCoefficientsByModuli() {
        PolynomialBench desk = new PolynomialBench();
        ExtremesTest.put(desk, 0, new BigInteger[] {MOST, MOST.negate()});
        for (int modulus : new int[] {2, 3, 7, 999_999_999, 1_000_000_000, 2147483646, 2147483647}) {
            BigInteger m = BigInteger.valueOf(modulus);
            DUE.same("40 digits by " + modulus, desk.coefficient(0, 0, modulus), MOST.mod(m).intValue());
            DUE.same("40 digits below 0 by " + modulus, desk.coefficient(0, 1, modulus), MOST.negate().mod(m).intValue());
        }
    }

    private static void bits() {
        PolynomialBench desk = new PolynomialBench();
        for (int bits = 0; bits <= 132; bits++) {
            BigInteger power = ONE.shiftLeft(bits);
            ExtremesTest.put(desk, 0, Model.trimmed(new BigInteger[] {power.subtract(ONE), power.subtract(ONE).negate(), power}));
            DUE.same("2^n - 1", desk.length(0, 0), bits);
            DUE.same("1 - 2^n", desk.length(0, 1), bits);
            DUE.same("2^n", desk.length(0, 2), bits + 1);
        }
        ExtremesTest.put(desk, 0, new BigInteger[] {MOST, MOST.negate()});
        DUE.same("40 digits", desk.length(0, 0), 133);
        DUE.same("40 digits", desk.length(0, 1), 133);
        DUE.same("0", desk.length(5, 0), 0);
    }

    private static void sameOrNot() {
        PolynomialBench desk = new PolynomialBench();
        DUE.is("0 and 0", desk.isSame(0, 7), true);
        BigInteger[] all = new BigInteger[8];
        Arrays.fill(all, MOST);
        ExtremesTest.put(desk, 0, all);
        ExtremesTest.put(desk, 1, all);
        DUE.is("the same", desk.isSame(0, 1), true);
        DUE.is("the same place", desk.isSame(0, 0), true);
        DUE.is("0 and something", desk.isSame(0, 5), false);
        DUE.is("something and 0", desk.isSame(5, 0), false);
        for (int exponent = 0; exponent < 8; exponent++) {
            BigInteger[] others = {MOST.negate(), MOST.subtract(ONE), MOST.subtract(BigInteger.TEN.pow(39)), BigInteger.ZERO};
            for (BigInteger other : others) {
                BigInteger[] changed = all.clone();
                changed[exponent] = other;
                ExtremesTest.put(desk, 2, Model.trimmed(changed));
                DUE.is("another coefficient of " + exponent, desk.isSame(0, 2), false);
                DUE.is("another coefficient of " + exponent, desk.isSame(2, 0), false);
            }
        }
    }

    private static void copies() {
        for (int one = 0; one < 8; one++) {
            for (int to = 0; to < 8; to++) {
                PolynomialBench desk = new PolynomialBench();
                desk.set(one, one, 5);
                DUE.same("copy " + one + " to " + to, desk.copy(one, to), one);
                DUE.is("copy " + one + " to " + to, desk.isSame(one, to), true);
                DUE.same("the first one stays", desk.degree(one), one);
                desk.set(one, one, 0);
                DUE.same("a copy stands for itself", desk.degree(to), one == to ? -1 : one);
                DUE.same("copy 0", desk.copy(one, to), -1);
                DUE.same("copy 0", desk.degree(to), -1);
            }
        }
    }

    private static void pointsAtTheEnds() {
        for (int x : new int[] {-50, -49, 0, 49, 50}) {
            for (int y : new int[] {-1000000, -999999, 0, 999999, 1000000}) {
                PolynomialBench desk = new PolynomialBench();
                DUE.same("addPoint", desk.addPoint(x, y), 1);
                DUE.same("d", desk.interpolate(0), 1);
                DUE.text("the polynomial through one point", Due.show(desk, 0), "" + y);
            }
        }
        PolynomialBench desk = new PolynomialBench();
        for (int x : new int[] {-51, 51, Integer.MIN_VALUE, Integer.MAX_VALUE}) {
            DUE.thrown("the x " + x, desk, Due.RANGE, () -> desk.addPoint(x, 0));
        }
        for (int y : new int[] {-1000001, 1000001, Integer.MIN_VALUE, Integer.MAX_VALUE}) {
            DUE.thrown("the y " + y, desk, Due.RANGE, () -> desk.addPoint(0, y));
        }
        DUE.same("no points", desk.clearPoints(), 0);
    }

    private static void eightPoints() {
        PolynomialBench desk = new PolynomialBench();
        for (int i = 1; i <= 8; i++) {
            DUE.same("addPoint " + i, desk.addPoint(i, i), i);
        }
        DUE.thrown("a ninth point", desk, Due.STATE, () -> desk.addPoint(9, 9));
        DUE.thrown("one of the eight again", desk, Due.STATE, () -> desk.addPoint(8, 8));
        DUE.same("d", desk.interpolate(0), 1);
        DUE.text("through all eight", Due.show(desk, 0), "x");
        DUE.same("clearPoints", desk.clearPoints(), 8);
        DUE.same("a first one", desk.addPoint(9, 9), 1);
    }

    private static void oneXOnce() {
        PolynomialBench desk = new PolynomialBench();
        int[] xs = {-50, 0, 50, 7};
        for (int i = 0; i < xs.length; i++) {
            DUE.same("addPoint", desk.addPoint(xs[i], 5), i + 1);
            for (int j = 0; j <= i; j++) {
                int x = xs[j];
                DUE.thrown("this x again", desk, Due.STATE, () -> desk.addPoint(x, 6));
                DUE.thrown("this point again", desk, Due.STATE, () -> desk.addPoint(x, 5));
                DUE.thrown("this x and a y out of range", desk, Due.RANGE, () -> desk.addPoint(x, 1000001));
            }
        }
        DUE.same("the same y with another x", desk.addPoint(-7, 5), 5);
    }

    private static void clearedPoints() {
        PolynomialBench desk = new PolynomialBench();
        for (int count = 0; count <= 8; count++) {
            for (int i = 0; i < count; i++) {
                DUE.same("addPoint", desk.addPoint(i - 4, i * i), i + 1);
            }
            DUE.same("clearPoints", desk.clearPoints(), count);
            DUE.same("clearPoints again", desk.clearPoints(), 0);
            DUE.same("d without points", desk.interpolate(3), 1);
            DUE.same("0 without points", desk.degree(3), -1);
        }
    }

    private static void curve(long under, String want, int... xsAndYs) {
        PolynomialBench desk = new PolynomialBench();
        for (int i = 0; i < xsAndYs.length; i += 2) {
            desk.addPoint(xsAndYs[i], xsAndYs[i + 1]);
        }
        desk.set(3, 7, 9);
        DUE.same("d of " + want, desk.interpolate(3), under);
        DUE.text("d times p", Due.show(desk, 3), want);
        DUE.same("it is a change", desk.undo(), 1);
        DUE.same("it is undone", desk.degree(3), 7);
        DUE.same("the points stay", desk.clearPoints(), xsAndYs.length / 2);
    }

    /** The degree is less than the number of points: the greatest one, a lower one, and 0. */
    private static void polynomialsThroughPoints() {
        curve(1, "0");
        curve(1, "0", 5, 0);
        curve(1, "-7", 0, -7);
        curve(1, "x", 0, 0, 1, 1);
        curve(1, "3", 0, 3, 1, 3);
        curve(1, "0", 0, 0, 1, 0, 2, 0, 3, 0, 4, 0, 5, 0, 6, 0, 7, 0);
        curve(1, "1", 0, 1, 1, 1, 2, 1, 3, 1, 4, 1, 5, 1, 6, 1, 7, 1);
        curve(1, "x^7", -1, -1, 0, 0, 1, 1, 2, 128, 3, 2187, 4, 16384, 5, 78125, 6, 279936);
        curve(5040, "x^7-21x^6+175x^5-735x^4+1624x^3-1764x^2+720x", 0, 0, 1, 0, 2, 0, 3, 0, 4, 0, 5, 0, 6, 0, 7, 1);
        curve(1, "-20000x", 50, -1000000, -50, 1000000);
    }

    private static void leastNumberD() {
        curve(2, "x", 0, 0, 2, 1);
        curve(1, "x", 0, 0, 2, 2);
        curve(100, "x+50", -50, 0, 50, 1);
        curve(100, "-x+50", 50, 0, -50, 1);
        curve(2, "x+1", 1, 1, 3, 2);
        curve(6, "x^3-x", -1, 0, 0, 0, 1, 0, 2, 1);
        curve(2, "x^2-x", 0, 0, 1, 0, 2, 1);
    }

    /** The numbers d nearest to 2^63 on both sides that a long search has found. */
    private static void numbersDNear2To63() {
        int[][] below = {{-48, 39825}, {-14, -67500}, {49, 99225}, {0, 20925}, {-40, -68175}, {28, -100575}, {-49, 72225},
            {16, -49950}};
        int[][] above = {{-29, 128100}, {18, -105700}, {-27, -37800}, {5, 76300}, {-1, -107100}, {45, -137900},
            {15, -125300}, {37, 53900}};
        PolynomialBench last = new PolynomialBench();
        PolynomialBench first = new PolynomialBench();
        Model lastModel = new Model();
        Model firstModel = new Model();
        for (int i = 0; i < 8; i++) {
            last.addPoint(below[i][0], below[i][1]);
            lastModel.addPoint(below[i][0], below[i][1]);
            first.addPoint(above[i][0], above[i][1]);
            firstModel.addPoint(above[i][0], above[i][1]);
        }
        lastModel.interpolate(0);
        DUE.text("d of the model", lastModel.numberD().toString(), "9223372022103343104");
        DUE.same("d below 2^63", last.interpolate(0), 9223372022103343104L);
        DUE.text("d times p", Due.show(last, 0), lastModel.show(0));
        DUE.text("d of the model", firstModel.numberD().toString(), "9223372044806160384");
        DUE.thrown("d above 2^63 - 1", first, Due.STATE, () -> first.interpolate(0));
        DUE.same("the points stay", first.clearPoints(), 8);
        DUE.same("no change", first.undo(), PolynomialBench.NONE);
    }

    private static void means() {
        PolynomialBench desk = new PolynomialBench();
        DUE.same("meanDegree of nothing", desk.meanDegree(), -1.0);
        DUE.same("zeroShare of nothing", desk.zeroShare(), 1.0f);
        int sum = -8;
        for (int place = 0; place < 8; place++) {
            for (int exponent = 0; exponent < 8; exponent++) {
                desk.set(place, exponent, 1);
                sum++;
                DUE.same("meanDegree", desk.meanDegree(), sum / 8.0);
                DUE.same("zeroShare", desk.zeroShare(), (7 - place) / 8.0f);
            }
        }
        DUE.same("meanDegree of eight times x^7", desk.meanDegree(), 7.0);
        DUE.same("zeroShare of none", desk.zeroShare(), 0.0f);
        for (int place = 0; place < 8; place++) {
            desk.scale(place, 0, place);
            DUE.same("meanDegree", desk.meanDegree(), (56 - 8 * (place + 1)) / 8.0);
            DUE.same("zeroShare", desk.zeroShare(), (place + 1) / 8.0f);
        }
    }
}
