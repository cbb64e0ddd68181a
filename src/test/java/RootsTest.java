import java.math.BigInteger;
import java.util.Arrays;
import java.util.NoSuchElementException;

/** The promises 32 to 39: fractions at the ends of their ranges, counts from 0 to 7, boxes from -500 to 500. */
public final class RootsTest {
    private static final Class<NoSuchElementException> NOTHING = NoSuchElementException.class;
    private static final String SEVEN = "x^7-14x^5+49x^3-36x";

    private static final Due DUE = new Due("RootsTest");

    public static void main(String[] args) {
        endsOfTheFractions();
        signsAtFractions();
        valuesAtTheEnds();
        countsFromZeroToSeven();
        rootsUpToARoot();
        rootsUpToTheEnds();
        rootsFarOut();
        eachNumberOfDigits();
        rootsAtTheEdgesOfBoxes();
        boxesAtTheEnds();
        boxesOfRepeatedRoots();
        repeatedRootsAmongOthers();
        numbersOfRoots();
        wholeRootsAtTheEnds();
        numbersOfWholeRoots();
        wholeRootsOnceEach();
        rootsByAModulus();
        rootsByTheEndsOfTheModulus();
        DUE.end();
    }

    /** a x + b. */
    private static PolynomialBench line(long a, long b) {
        PolynomialBench desk = new PolynomialBench();
        desk.set(0, 1, a);
        desk.set(0, 0, b);
        return desk;
    }

    private static void endsOfTheFractions() {
        PolynomialBench desk = Due.desk("x", SEVEN);
        for (int place = 0; place < 2; place++) {
            int of = place;
            for (long over : new long[] {-1000000, 1000000, 0, -999999, 999999}) {
                for (int under : new int[] {1, 2, 999, 1000}) {
                    DUE.same("signAt " + over, desk.signAt(of, over, under), Long.signum(over));
                    desk.value(of, over, under);
                    DUE.is("value at " + over, Due.page(desk).startsWith("-"), over < 0);
                    DUE.is("rootsUpTo " + over, desk.rootsUpTo(of, over, under) == 0, over < 0);
                }
                for (int under : new int[] {0, 1001}) {
                    DUE.thrown("signAt /" + under, desk, Due.RANGE, () -> desk.signAt(of, over, under));
                    DUE.thrown("value /" + under, desk, Due.RANGE, () -> desk.value(of, over, under));
                    DUE.thrown("rootsUpTo /" + under, desk, Due.RANGE, () -> desk.rootsUpTo(of, over, under));
                }
            }
            for (long over : new long[] {-1000001, 1000001}) {
                for (int under : new int[] {1, 1000}) {
                    DUE.thrown("signAt " + over, desk, Due.RANGE, () -> desk.signAt(of, over, under));
                    DUE.thrown("value " + over, desk, Due.RANGE, () -> desk.value(of, over, under));
                    DUE.thrown("rootsUpTo " + over, desk, Due.RANGE, () -> desk.rootsUpTo(of, over, under));
                }
            }
        }
    }

    private static void signsAtFractions() {
        PolynomialBench desk = line(1000, -999);
        DUE.same("at the root", desk.signAt(0, 999, 1000), 0);
        DUE.same("ahead of it", desk.signAt(0, 998, 1000), -1);
        DUE.same("behind it", desk.signAt(0, 1000, 1000), 1);
        DUE.same("behind it", desk.signAt(0, 998, 998), 1);
        DUE.same("ahead of it", desk.signAt(0, 997, 998), -1);
        DUE.same("of 0", desk.signAt(7, -1000000, 1), 0);
        for (int sign = -1; sign <= 1; sign += 2) {
            desk.scale(7, 0, 1);
            desk.set(1, 0, sign);
            DUE.same("of a number", desk.signAt(1, -1000000, 1000), sign);
            desk.set(1, 7, sign);
            desk.set(1, 0, 0);
            DUE.same("of x^7", desk.signAt(1, 1, 1000), sign);
            DUE.same("of x^7", desk.signAt(1, -1, 1000), -sign);
            DUE.same("of x^7", desk.signAt(1, 0, 1000), 0);
        }
    }

    private static void value(PolynomialBench desk, long over, int under, String want) {
        DUE.same("value " + want, desk.value(0, over, under), want.length());
        DUE.text("value", Due.page(desk), want);
    }

    private static void valuesAtTheEnds() {
        PolynomialBench desk = Due.desk("x^7");
        value(desk, 1000000, 1, "1" + "0".repeat(42));
        value(desk, -1000000, 1, "-1" + "0".repeat(42));
        value(desk, 1, 1000, "1/1" + "0".repeat(21));
        value(desk, -1, 1000, "-1/1" + "0".repeat(21));
        value(desk, 1000000, 1000, "1" + "0".repeat(21));
        value(desk, 999999, 1000, BigInteger.valueOf(999999).pow(7) + "/1" + "0".repeat(21));
        value(desk, 0, 1000, "0");
        value(Due.desk("0"), 999999, 1000, "0");
        value(Due.desk("-12"), 999999, 1000, "-12");
        value(Due.desk("1000x-999"), 999, 1000, "0");
        BigInteger[] most = new BigInteger[8];
        Arrays.fill(most, BigInteger.TEN.pow(40).subtract(BigInteger.ONE));
        PolynomialBench great = new PolynomialBench();
        ExtremesTest.put(great, 0, most);
        for (long over : new long[] {1000000, -1000000, 999983, -1, 0}) {
            for (int under : new int[] {1, 997, 1000}) {
                value(great, over, under, Model.valueOf(most, new Model.Ratio(over, under)).written());
            }
        }
    }

    private static void countsFromZeroToSeven() {
        PolynomialBench desk = new PolynomialBench();
        desk.set(0, 0, -3);
        DUE.same("roots of a number", desk.roots(0), 0);
        DUE.same("rootsUpTo of a number", desk.rootsUpTo(0, 1000000, 1), 0);
        for (int count = 1; count < 8; count++) {
            desk.scale(1, 0, 1);
            desk.set(1, 1, 2);
            desk.set(1, 0, 7 - 2 * count);
            desk.multiply(0, 1, 0);
            DUE.same("roots", desk.roots(0), count);
            DUE.same("rootsUpTo all", desk.rootsUpTo(0, 1000000, 1), count);
            DUE.same("rootsUpTo none", desk.rootsUpTo(0, -1000000, 1), 0);
            for (int i = 1; i <= count; i++) {
                // The roots are -5/2, -3/2, .. in rising order.
                DUE.same("rootsUpTo a root", desk.rootsUpTo(0, 2 * i - 7, 2), i);
                DUE.same("rootsUpTo just below a root", desk.rootsUpTo(0, 500 * (2 * i - 7) - 1, 1000), i - 1);
                DUE.same("box", desk.box(0, i - 1, 0), i - 4);
            }
            int behind = count;
            DUE.thrown("box behind the last root", desk, Due.PLACE, () -> desk.box(0, behind, 0));
            DUE.thrown("box ahead of the first root", desk, Due.PLACE, () -> desk.box(0, -1, 0));
        }
        for (String none : new String[] {"1", "-1", "x^2+1", "x^6+1", "-x^4-x^2-1"}) {
            PolynomialBench without = Due.desk(none);
            DUE.same("no roots", without.roots(0), 0);
            DUE.same("no roots", without.rootsUpTo(0, 1000000, 1), 0);
            DUE.same("no whole roots", without.wholeRoots(0), 0);
            DUE.thrown("no box", without, Due.PLACE, () -> without.box(0, 0, 0));
        }
    }

    private static void rootsUpToARoot() {
        for (String one : new String[] {"2x-1", "4x^2-4x+1", "8x^3-12x^2+6x-1", "-2x+1", "2x^3-x^2+2x-1"}) {
            PolynomialBench desk = Due.desk(one);
            DUE.same(one + " up to its root", desk.rootsUpTo(0, 1, 2), 1);
            DUE.same(one + " up to its root", desk.rootsUpTo(0, 500, 1000), 1);
            DUE.same(one + " up to below its root", desk.rootsUpTo(0, 499, 1000), 0);
            DUE.same(one + " up to behind its root", desk.rootsUpTo(0, 501, 1000), 1);
            DUE.same(one + ": different roots", desk.roots(0), 1);
        }
    }

    private static void rootsUpToTheEnds() {
        for (int sign = -1; sign <= 1; sign += 2) {
            DUE.same("the root 1000000", line(sign, -1000000 * sign).rootsUpTo(0, 1000000, 1), 1);
            DUE.same("the root 1000000", line(sign, -1000000 * sign).rootsUpTo(0, 999999, 1), 0);
            DUE.same("the root 1000001", line(sign, -1000001 * sign).rootsUpTo(0, 1000000, 1), 0);
            DUE.same("the root -1000000", line(sign, 1000000 * sign).rootsUpTo(0, -1000000, 1), 1);
            DUE.same("the root -999999", line(sign, 999999 * sign).rootsUpTo(0, -1000000, 1), 0);
            DUE.same("the root -1000001", line(sign, 1000001 * sign).rootsUpTo(0, -1000000, 1), 1);
            DUE.same("the root 1/1000", line(1000 * sign, -sign).rootsUpTo(0, 1, 1000), 1);
            DUE.same("the root 1/1000", line(1000 * sign, -sign).rootsUpTo(0, 0, 1000), 0);
            DUE.same("the root 1/1001", line(1001 * sign, -sign).rootsUpTo(0, 1, 1000), 1);
            DUE.same("the root 1/999", line(999 * sign, -sign).rootsUpTo(0, 1, 1000), 0);
            DUE.same("the root 0", line(sign, 0).rootsUpTo(0, 0, 1000), 1);
            DUE.same("the root 0", line(sign, 0).rootsUpTo(0, -1, 1000), 0);
        }
    }

    /** Roots are counted however far out they are, and however near to 0. */
    private static void rootsFarOut() {
        PolynomialBench desk = Due.desk("x^2-999999999999999999999999999999", "999999999999999999999999999999x^2-1",
            "999999999999999999999999999999x^2+1");
        DUE.same("far out", desk.roots(0), 2);
        DUE.same("far out", desk.rootsUpTo(0, 1000000, 1), 1);
        DUE.same("far out", desk.rootsUpTo(0, -1000000, 1), 1);
        DUE.thrown("box far below", desk, Due.STATE, () -> desk.box(0, 0, 0));
        DUE.thrown("box far above", desk, Due.STATE, () -> desk.box(0, 1, 8));
        DUE.same("near 0", desk.roots(1), 2);
        DUE.same("near 0", desk.rootsUpTo(1, 0, 1), 1);
        DUE.same("near 0", desk.rootsUpTo(1, -1, 1000), 0);
        DUE.same("box near 0", desk.box(1, 0, 8), -1);
        DUE.same("box near 0", desk.box(1, 1, 8), 0);
        DUE.same("near 0, but none", desk.roots(2), 0);
    }

    private static void eachNumberOfDigits() {
        // The root of 2 is 1.41421356..: its first binary digits are 1.01101010.
        int[] dues = {1, 2, 5, 11, 22, 45, 90, 181, 362};
        PolynomialBench desk = Due.desk("x^2-2");
        for (int digits = 0; digits <= 8; digits++) {
            DUE.same("box with " + digits + " digits", desk.box(0, 1, digits), dues[digits]);
            DUE.same("box with " + digits + " digits", desk.box(0, 0, digits), -dues[digits] - 1);
        }
        for (int digits : new int[] {-1, 9, Integer.MIN_VALUE, Integer.MAX_VALUE}) {
            DUE.thrown("box with " + digits + " digits", desk, Due.RANGE, () -> desk.box(0, 1, digits));
        }
    }

    /** A root that is m + 1 divided by 2^digits is in the box below, as the box is open at m. */
    private static void rootsAtTheEdgesOfBoxes() {
        for (int root = -8; root <= 8; root++) {
            PolynomialBench desk = line(4, -root);
            for (int digits = 0; digits <= 8; digits++) {
                int due = Math.floorDiv((root << digits) - 1, 4);
                DUE.same("box of " + root + "/4 with " + digits + " digits", desk.box(0, 0, digits), due);
            }
        }
    }

    private static void boxesAtTheEnds() {
        PolynomialBench last = line(1, -500);
        PolynomialBench first = line(1, 500);
        for (int digits = 0; digits <= 8; digits++) {
            int now = digits;
            DUE.same("box of 500", last.box(0, 0, digits), (500 << digits) - 1);
            DUE.thrown("box of -500", first, Due.STATE, () -> first.box(0, 0, now));
            DUE.same("box of -499", line(1, 499).box(0, 0, digits), (-499 << digits) - 1);
            PolynomialBench above = line(1000000, -500000001);
            DUE.thrown("box of just above 500", above, Due.STATE, () -> above.box(0, 0, now));
            PolynomialBench within = line(1000000, 499999999);
            DUE.same("box of just above -500", within.box(0, 0, digits), -500 << digits);
            PolynomialBench below = line(1000000, 500000001);
            DUE.thrown("box of just below -500", below, Due.STATE, () -> below.box(0, 0, now));
            DUE.same("box of just below 500", line(1000000, -499999999).box(0, 0, digits), (500 << digits) - 1);
        }
        // -501, -500, -499, 499, 500, 501 and 0: their numbers count all, those far out too.
        PolynomialBench desk = line(1, 0);
        for (int root : new int[] {-501, -500, -499, 499, 500, 501}) {
            desk.scale(1, 0, 1);
            desk.set(1, 1, 1);
            desk.set(1, 0, -root);
            desk.multiply(0, 1, 0);
        }
        DUE.same("all of them", desk.roots(0), 7);
        int[] boxes = {0, 0, -500, -1, 498, 499, 0};
        for (int root = 0; root < 7; root++) {
            int now = root;
            if (root < 2 || root > 5) {
                DUE.thrown("box " + root, desk, Due.STATE, () -> desk.box(0, now, 0));
                DUE.thrown("box " + root + " with 9 digits", desk, Due.RANGE, () -> desk.box(0, now, 9));
            } else {
                DUE.same("box " + root, desk.box(0, root, 0), boxes[root]);
            }
        }
        DUE.thrown("box 7", desk, Due.PLACE, () -> desk.box(0, 7, 0));
        DUE.thrown("box -1", desk, Due.PLACE, () -> desk.box(0, -1, 9));
    }

    private static void boxesOfRepeatedRoots() {
        PolynomialBench desk = Due.desk("x-1", "2x+3");
        desk.power(0, 3, 2);
        desk.power(1, 4, 3);
        desk.multiply(2, 3, 4);
        DUE.same("different roots", desk.roots(4), 2);
        DUE.same("box", desk.box(4, 0, 0), -2);
        DUE.same("box", desk.box(4, 0, 1), -4);
        DUE.same("box", desk.box(4, 1, 0), 0);
        DUE.thrown("a root that occurs again is no other", desk, Due.PLACE, () -> desk.box(4, 2, 0));
        DUE.same("rootsUpTo", desk.rootsUpTo(4, 1, 1), 2);
        DUE.same("rootsUpTo", desk.rootsUpTo(4, -3, 2), 1);
        DUE.same("wholeRoots", desk.wholeRoots(4), 1);
    }

    /** Up to a root that occurs more than once, with simple roots below and above it. */
    private static void repeatedRootsAmongOthers() {
        for (int times = 1; times <= 5; times++) {
            PolynomialBench desk = Due.desk("2x-1", "x-5", "x+7");
            desk.power(0, times, 3);
            desk.multiply(3, 1, 4);
            desk.multiply(4, 2, 5);
            DUE.same("different roots", desk.roots(4), 2);
            DUE.same("up to below the repeated one", desk.rootsUpTo(4, 499, 1000), 0);
            DUE.same("up to the repeated one", desk.rootsUpTo(4, 1, 2), 1);
            DUE.same("up to the simple one", desk.rootsUpTo(4, 5, 1), 2);
            DUE.same("the box of the repeated one", desk.box(4, 0, 1), 0);
            DUE.same("the box of the simple one", desk.box(4, 1, 1), 9);
            DUE.same("different roots", desk.roots(5), 3);
            DUE.same("up to the least one", desk.rootsUpTo(5, -7, 1), 1);
            DUE.same("up to the repeated one", desk.rootsUpTo(5, 1, 2), 2);
            DUE.same("the box of the repeated one", desk.box(5, 1, 8), 127);
            DUE.same("the box of the greatest one", desk.box(5, 2, 0), 4);
        }
    }

    private static void numbersOfRoots() {
        PolynomialBench desk = Due.desk(SEVEN);
        for (int root = 0; root < 7; root++) {
            DUE.same("box " + root, desk.box(0, root, 0), root - 4);
            DUE.same("box " + root, desk.box(0, root, 8), 256 * (root - 3) - 1);
        }
        for (int root : new int[] {-1, 7, 8, Integer.MIN_VALUE, Integer.MAX_VALUE}) {
            DUE.thrown("box " + root, desk, Due.PLACE, () -> desk.box(0, root, 0));
            DUE.thrown("box " + root, desk, Due.PLACE, () -> desk.box(0, root, 9));
        }
    }

    private static void wholeRootsAtTheEnds() {
        for (int root : new int[] {-1000, -999, -1, 0, 1, 999, 1000}) {
            PolynomialBench desk = line(-3, 3L * root);
            DUE.same("wholeRoots with " + root, desk.wholeRoots(0), 1);
            DUE.same("wholeRoot " + root, desk.wholeRoot(0, 0), root);
            DUE.thrown("wholeRoot 1", desk, NOTHING, () -> desk.wholeRoot(0, 1));
        }
        for (int root : new int[] {-1001, 1001, 1002, 1000000, -1000000}) {
            PolynomialBench desk = line(1, -root);
            DUE.same("wholeRoots with " + root, desk.wholeRoots(0), 0);
            DUE.thrown("wholeRoot", desk, NOTHING, () -> desk.wholeRoot(0, 0));
        }
        PolynomialBench all = Due.desk("x^2-1000000", "x^2-1002001", "x");
        all.multiply(0, 1, 3);
        all.multiply(3, 2, 3);
        DUE.same("-1000, 0 and 1000, not -1001 and 1001", all.wholeRoots(3), 3);
        DUE.same("the least one", all.wholeRoot(3, 0), -1000);
        DUE.same("the middle one", all.wholeRoot(3, 1), 0);
        DUE.same("the greatest one", all.wholeRoot(3, 2), 1000);
        DUE.thrown("no other one", all, NOTHING, () -> all.wholeRoot(3, 3));
    }

    private static void numbersOfWholeRoots() {
        PolynomialBench desk = Due.desk(SEVEN, "5");
        DUE.same("wholeRoots", desk.wholeRoots(0), 7);
        for (int index = 0; index < 7; index++) {
            DUE.same("wholeRoot " + index, desk.wholeRoot(0, index), index - 3);
        }
        for (int index : new int[] {-1, 7, 8, Integer.MIN_VALUE, Integer.MAX_VALUE}) {
            DUE.thrown("wholeRoot " + index, desk, NOTHING, () -> desk.wholeRoot(0, index));
            DUE.thrown("wholeRoot of a number", desk, NOTHING, () -> desk.wholeRoot(1, index));
            DUE.thrown("wholeRoot of 0", desk, Due.STATE, () -> desk.wholeRoot(7, index));
            DUE.thrown("wholeRoot without a place", desk, Due.PLACE, () -> desk.wholeRoot(8, index));
        }
        DUE.same("wholeRoots of a number", desk.wholeRoots(1), 0);
        DUE.thrown("wholeRoots of 0", desk, Due.STATE, () -> desk.wholeRoots(7));
    }

    private static void wholeRootsOnceEach() {
        PolynomialBench desk = Due.desk("x-2", "x+2");
        desk.power(0, 4, 2);
        desk.power(1, 3, 3);
        desk.multiply(2, 3, 4);
        DUE.same("wholeRoots", desk.wholeRoots(4), 2);
        DUE.same("the least one", desk.wholeRoot(4, 0), -2);
        DUE.same("the greatest one", desk.wholeRoot(4, 1), 2);
        PolynomialBench half = Due.desk("2x^2-3x+1", "x^2-2");
        DUE.same("a half is no whole root", half.wholeRoots(0), 1);
        DUE.same("nor is the root of 2", half.wholeRoots(1), 0);
    }

    private static void rootsByAModulus() {
        PolynomialBench desk = Due.desk("x", "x^2", "x^7-x", "7", "x-1000", "-x^2+1");
        for (int modulus = 1; modulus <= 1000; modulus++) {
            int squares = 0;
            for (int x = 0; x < modulus; x++) {
                squares += x * x % modulus == 0 ? 1 : 0;
            }
            DUE.same("x by " + modulus, desk.rootsModulo(0, modulus), 1);
            DUE.same("x^2 by " + modulus, desk.rootsModulo(1, modulus), squares);
            DUE.same("a number by " + modulus, desk.rootsModulo(3, modulus), 7 % modulus == 0 ? modulus : 0);
            DUE.same("a line by " + modulus, desk.rootsModulo(4, modulus), 1);
            DUE.same("0 by " + modulus, desk.rootsModulo(7, modulus), modulus);
        }
        DUE.same("x^7 - x by 7", desk.rootsModulo(2, 7), 7);
        DUE.same("x^7 - x by 49", desk.rootsModulo(2, 49), 7);
        DUE.same("1 - x^2 by 8", desk.rootsModulo(5, 8), 4);
    }

    private static void rootsByTheEndsOfTheModulus() {
        PolynomialBench desk = Due.desk("x^7-x", "5");
        for (int modulus : new int[] {0, -1, 1001, Integer.MIN_VALUE, Integer.MAX_VALUE}) {
            DUE.thrown("by " + modulus, desk, Due.RANGE, () -> desk.rootsModulo(0, modulus));
            DUE.thrown("0 by " + modulus, desk, Due.RANGE, () -> desk.rootsModulo(7, modulus));
        }
        DUE.same("by 1", desk.rootsModulo(1, 1), 1);
        DUE.same("0 by 1", desk.rootsModulo(7, 1), 1);
        DUE.same("by 1000", desk.rootsModulo(1, 1000), 0);
        DUE.same("0 by 1000", desk.rootsModulo(7, 1000), 1000);
    }
}
