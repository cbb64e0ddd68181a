import java.math.BigInteger;

/** Section 4 and the promises 26 to 31: the degrees -1, 0 and 7, 0 as dividend and divisor, the first and last times. */
public final class DividingTest {
    private static final Due DUE = new Due("DividingTest");

    public static void main(String[] args) {
        powerOfEachTwoDegrees();
        dividendZero();
        divisorZero();
        whoDividesWhom();
        zeroDividesZeroAlone();
        divisorsWithZero();
        divisorsOfNumbers();
        resultantWithoutRows();
        resultantWithZero();
        resultantOfNumbers();
        signsOfResultants();
        resultantsOfDegreeSeven();
        discriminants();
        slopes();
        partsOfPowers();
        partsOfSevenLines();
        partsThatThereAreNot();
        errorsAreNone();
        DUE.end();
    }

    private static PolynomialBench degrees(int one, int other) {
        PolynomialBench desk = new PolynomialBench();
        for (int exponent = 0; exponent <= one; exponent++) {
            desk.set(0, exponent, exponent * exponent + 1);
        }
        for (int exponent = 0; exponent <= other; exponent++) {
            desk.set(1, exponent, 3 * exponent - 2);
        }
        return desk;
    }

    /** k is n + 1 if n is 0 or more, otherwise 0; the rest is of a lower degree; both agree with the definition. */
    private static void powerOfEachTwoDegrees() {
        for (int one = -1; one < 8; one++) {
            for (int by = 0; by < 8; by++) {
                PolynomialBench desk = degrees(one, by);
                String what = "degree " + one + " by degree " + by;
                int due = one - by >= 0 ? one - by + 1 : 0;
                DUE.same("the power of " + what, desk.divide(0, 1, 2, 3), due);
                DUE.same("the quotient of " + what, desk.degree(2), one - by >= 0 ? one - by : -1);
                DUE.is("the rest of " + what, desk.degree(3) < by, true);
                desk.multiply(2, 1, 4);
                desk.add(4, 3, 4);
                for (int i = 0; i < due; i++) {
                    desk.scale(0, 3 * by - 2, 0);
                }
                DUE.is("the definition, " + what, desk.isSame(0, 4), true);
            }
        }
    }

    private static void dividendZero() {
        for (int by = 0; by < 8; by++) {
            PolynomialBench desk = degrees(-1, by);
            desk.set(2, 1, 1);
            desk.set(3, 1, 1);
            DUE.same("0 by degree " + by, desk.divide(0, 1, 2, 3), 0);
            DUE.same("the quotient of 0", desk.degree(2), -1);
            DUE.same("the rest of 0", desk.degree(3), -1);
        }
    }

    private static void divisorZero() {
        for (int one = -1; one < 8; one++) {
            for (int quotient = 0; quotient < 8; quotient++) {
                PolynomialBench desk = degrees(one, -1);
                String before = Due.places(desk);
                int changes = one + 1;
                DUE.same("by 0", desk.divide(0, 1, quotient, (quotient + 1) % 8), PolynomialBench.NONE);
                DUE.text("by 0 is no change", Due.places(desk), before);
                DUE.same("by 0 is no change", desk.undo(), changes - 1);
            }
        }
    }

    private static void divides(String one, String other, boolean due) {
        PolynomialBench desk = Due.desk(one, other);
        DUE.is(one + " divides " + other, desk.divides(0, 1), due);
    }

    private static void whoDividesWhom() {
        String[] all = {"1", "-1", "2", "-6", "x", "2x", "-x^7", "x+1", "2x+2", "x^2-1", "3x^7-3x^5", "7x^3", "x^7+x^6"};
        for (String one : all) {
            divides(one, one, true);
            divides("1", one, true);
            divides("-1", one, true);
            for (String other : all) {
                BigInteger[] a = polynomial(one);
                BigInteger[] b = polynomial(other);
                divides(one, other, Model.quotient(b, a) != null);
            }
        }
        divides("2", "x", false);
        divides("2", "2x+1", false);
        divides("2", "x+2", false);
        divides("x", "x+1", false);
        divides("x^7", "x^6", false);
        divides("x^6", "x^7", true);
        divides("2x", "x^2", false);
    }

    /** The coefficients of what a desk reads. */
    private static BigInteger[] polynomial(String text) {
        PolynomialBench desk = Due.desk(text);
        BigInteger[] p = Model.zeros(8);
        for (int exponent = 0; exponent < 8; exponent++) {
            int sign = desk.sign(0, exponent);
            int size = desk.coefficient(0, exponent, Integer.MAX_VALUE);
            p[exponent] = BigInteger.valueOf(sign < 0 ? (long) size - Integer.MAX_VALUE : size);
        }
        return Model.trimmed(p);
    }

    private static void zeroDividesZeroAlone() {
        divides("0", "0", true);
        for (String other : new String[] {"1", "-1", "5", "x", "x^7", "-x^7+x"}) {
            divides("0", other, false);
            divides(other, "0", true);
        }
    }

    private static void gcd(String one, String other, String want) {
        PolynomialBench desk = Due.desk(one, other);
        DUE.same("the degree of gcd", desk.gcd(0, 1, 2), desk.degree(2));
        DUE.text("gcd of " + one + " and " + other, Due.show(desk, 2), want);
        PolynomialBench back = Due.desk(other, one);
        back.gcd(0, 1, 2);
        DUE.text("gcd of " + other + " and " + one, Due.show(back, 2), want);
    }

    private static void divisorsWithZero() {
        gcd("0", "0", "0");
        gcd("0", "1", "1");
        gcd("0", "-1", "1");
        gcd("0", "-12", "1");
        gcd("0", "x", "x");
        gcd("0", "-6x+4", "3x-2");
        gcd("0", "-4x^7-8", "x^7+2");
        gcd("0", "5x^7", "x^7");
    }

    private static void divisorsOfNumbers() {
        gcd("6", "4", "1");
        gcd("-6", "-6", "1");
        gcd("6", "6x+6", "1");
        gcd("1", "x^7", "1");
        gcd("-2x-2", "-2x-2", "x+1");
        gcd("2x+2", "-3x-3", "x+1");
        gcd("x^7", "x", "x");
        gcd("-x^7", "x^7", "x^7");
        gcd("x^7-1", "x^7+1", "1");
        gcd("x^7-1", "x^6-1", "x-1");
        gcd("6x^2-6", "4x^2+8x+4", "x+1");
    }

    private static void resultant(String one, String other, String want) {
        PolynomialBench desk = Due.desk(one, other);
        int sign = new BigInteger(want).signum();
        DUE.same("the sign of the resultant of " + one + " and " + other, desk.resultant(0, 1), sign);
        DUE.text("the resultant of " + one + " and " + other, Due.page(desk), want);
        DUE.same("the length of its page", desk.pageLength(), want.length());
    }

    private static void resultantWithoutRows() {
        resultant("1", "1", "1");
        resultant("5", "7", "1");
        resultant("-5", "7", "1");
        resultant("5", "-7", "1");
        resultant("-5", "-7", "1");
    }

    private static void resultantWithZero() {
        for (String other : new String[] {"0", "1", "-5", "x", "-x^7", "x^7+1"}) {
            resultant("0", other, "0");
            resultant(other, "0", "0");
        }
    }

    /** With a number, the determinant is its power by the other degree. */
    private static void resultantOfNumbers() {
        for (int degree = 1; degree < 8; degree++) {
            String power = degree == 1 ? "x" : "x^" + degree;
            String due = BigInteger.valueOf(-3).pow(degree).toString();
            resultant("-3", power, due);
            resultant(power, "-3", due);
            resultant("-3", "-5" + power + "+1", due);
            resultant("-5" + power + "+1", "-3", due);
        }
    }

    private static void signsOfResultants() {
        resultant("x", "x+1", "1");
        resultant("x+1", "x", "-1");
        resultant("x", "x", "0");
        resultant("-x", "x+1", "-1");
        resultant("x", "-x-1", "-1");
        resultant("x^2", "x-1", "1");
        resultant("x-1", "x^2", "1");
        resultant("x^3", "x-1", "-1");
        resultant("x-1", "x^3", "1");
    }

    private static void resultantsOfDegreeSeven() {
        resultant("x^7-1", "x^7+1", "128");
        resultant("x^7+1", "x^7-1", "-128");
        resultant("x^7", "x^7+1", "1");
        resultant("x^7", "x^7", "0");
        resultant("x^7-2", "x", "2");
        resultant("x", "x^7-2", "-2");
        for (int one = 0; one < 8; one++) {
            for (int other = 0; other < 8; other++) {
                PolynomialBench desk = degrees(one, other);
                BigInteger[] a = new BigInteger[one + 1];
                BigInteger[] b = new BigInteger[other + 1];
                for (int i = 0; i < 8; i++) {
                    if (i <= one) {
                        a[i] = BigInteger.valueOf(i * i + 1);
                    }
                    if (i <= other) {
                        b[i] = BigInteger.valueOf(3 * i - 2);
                    }
                }
                BigInteger due = Model.resultantOf(a, b);
                DUE.same("resultant of degrees " + one + " and " + other, desk.resultant(0, 1), due.signum());
                DUE.text("resultant of degrees " + one + " and " + other, Due.page(desk), due.toString());
            }
        }
    }

    private static void discriminant(String of, String want) {
        PolynomialBench desk = Due.desk(of);
        DUE.same("the sign of the discriminant of " + of, desk.discriminant(0), new BigInteger(want).signum());
        DUE.text("the discriminant of " + of, Due.page(desk), want);
        DUE.same("the length of its page", desk.pageLength(), want.length());
    }

    private static void discriminants() {
        for (String number : new String[] {"0", "1", "-1", "7", "-1000000000000"}) {
            discriminant(number, "0");
        }
        for (String line : new String[] {"x", "-x", "7x", "-7x+5", "123456789012345678901234567890x-1"}) {
            discriminant(line, "1");
        }
        // x^n - 1: n^n, with the sign of (-1)^((n - 1)(n - 2) / 2); x^n: 0 from n = 2 on.
        String[] dues = {"4", "-27", "-256", "3125", "46656", "-823543"};
        for (int degree = 2; degree < 8; degree++) {
            discriminant("x^" + degree + "-1", dues[degree - 2]);
            discriminant("x^" + degree, "0");
        }
        discriminant("x^2+1", "-4");
        discriminant("-x^2-1", "-4");
        discriminant("2x^2+3x+1", "1");
        discriminant("-2x^3+4x", "512");
    }

    private static void slopes() {
        for (int exponent = 0; exponent < 8; exponent++) {
            PolynomialBench desk = new PolynomialBench();
            desk.set(0, exponent, -3);
            DUE.same("the slope of x^" + exponent, desk.slope(0, 1), exponent - 1);
            DUE.same("its coefficient", desk.sign(1, exponent - 1), exponent > 0 ? -1 : 0);
            DUE.same("its coefficient", desk.coefficient(1, exponent - 1, 1000),
                exponent > 0 ? 1000 - 3 * exponent : 0);
        }
        PolynomialBench desk = new PolynomialBench();
        DUE.same("the slope of 0", desk.slope(0, 0), -1);
    }

    /** (2x - 1)^n occurs n times, and no other times. */
    private static void partsOfPowers() {
        for (int degree = 1; degree < 8; degree++) {
            PolynomialBench desk = Due.desk("-2x+1");
            desk.power(0, degree, 1);
            desk.scale(1, -6, 1);
            for (int times = 1; times < 8; times++) {
                DUE.same("the part " + times + " of a power " + degree, desk.part(1, times, 2), times == degree ? 1 : 0);
                DUE.text("the part " + times + " of a power " + degree, Due.show(desk, 2), times == degree ? "2x-1" : "1");
            }
        }
    }

    private static void partsOfSevenLines() {
        PolynomialBench desk = Due.desk("-x^7+14x^5-49x^3+36x");
        DUE.same("seven factors, each once", desk.part(0, 1, 1), 7);
        DUE.text("seven factors, each once", Due.show(desk, 1), "x^7-14x^5+49x^3-36x");
        for (int times = 2; times < 8; times++) {
            DUE.same("nothing more often", desk.part(0, times, 1), 0);
            DUE.text("nothing more often", Due.show(desk, 1), "1");
        }
    }

    private static void partsThatThereAreNot() {
        for (String number : new String[] {"1", "-1", "12"}) {
            PolynomialBench desk = Due.desk(number);
            for (int times = 1; times < 8; times++) {
                DUE.same("the part of a number", desk.part(0, times, 1), 0);
                DUE.text("the part of a number", Due.show(desk, 1), "1");
            }
        }
        // x (x + 1)^2 (x - 1)^4 with 3, 5, 6 and 7 times in vain.
        PolynomialBench desk = Due.desk("x", "x+1", "x-1");
        desk.power(1, 2, 1);
        desk.power(2, 4, 2);
        desk.multiply(0, 1, 3);
        desk.multiply(3, 2, 3);
        String[] wants = {"x", "x+1", "1", "x-1", "1", "1", "1"};
        for (int times = 1; times < 8; times++) {
            desk.part(3, times, 4);
            DUE.text("the part " + times, Due.show(desk, 4), wants[times - 1]);
        }
    }

    private static void errorsAreNone() {
        String[] all = {"0", "1", "-7", "x", "-x^7", "x^7-1", "x-500", "x+500", "x-501", "x+501", "x^2-250000",
            "x^7-14x^5+49x^3-36x", "x^4-2x^2+1", "2x^2-1001x", "999999999999999999999999999999x^7-1", "512x-1"};
        for (String one : all) {
            for (String other : all) {
                PolynomialBench desk = Due.desk(one, other);
                DUE.same("errors of " + one + " and " + other, desk.errors(0, 1), 0);
                DUE.same("errors of one and the same", desk.errors(0, 0), 0);
            }
        }
    }
}
