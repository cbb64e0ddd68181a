import java.math.BigInteger;
import java.util.Arrays;
import java.util.function.ToIntFunction;

/** Section 2 and the history: the eight places, the degrees -1 to 7, 40 digits and no more, the latest 8 changes. */
public final class PlacesTest {
    private static final BigInteger ONE = BigInteger.ONE;
    private static final BigInteger ZERO = BigInteger.ZERO;
    private static final BigInteger MOST = BigInteger.TEN.pow(40).subtract(ONE);

    private static final Due DUE = new Due("PlacesTest");

    public static void main(String[] args) {
        newDesk();
        desksStandForThemselves();
        eightPlaces();
        degrees();
        degreeSevenAndEight();
        zeroHasNoDegreeToAdd();
        fortyDigitsOfSums();
        fortyDigitsOfProducts();
        fortyDigitsOfPowers();
        fortyDigitsOfComposed();
        fortyDigitsOfSlopes();
        fortyDigitsOfQuotients();
        fortyDigitsOfRests();
        fortyDigitsOfDivisors();
        onlyTheResultCounts();
        setAlwaysFits();
        contentAndPrimitivePart();
        latestEightChanges();
        changesBehindUndo();
        undoOfTwoPlaces();
        call512();
        DUE.end();
    }

    private static BigInteger[] term(BigInteger coefficient, int exponent) {
        BigInteger[] p = Model.zeros(exponent + 1);
        p[exponent] = coefficient;
        return p;
    }

    private static BigInteger whole(long number) {
        return BigInteger.valueOf(number);
    }

    /** A desk with these polynomials at the places 0, 1, ..; 7 is 0. */
    private static PolynomialBench desk(BigInteger[]... polynomials) {
        PolynomialBench desk = new PolynomialBench();
        for (int i = 0; i < polynomials.length; i++) {
            ExtremesTest.put(desk, i, polynomials[i]);
        }
        desk.scale(7, 0, 7);
        return desk;
    }

    /** The call puts this polynomial at the place 6. */
    private static void fits(String what, PolynomialBench desk, ToIntFunction<PolynomialBench> call, BigInteger[] want) {
        try {
            DUE.same(what, call.applyAsInt(desk), want.length - 1);
        } catch (IllegalStateException e) {
            DUE.fail(what + " was refused, due is " + Model.write(want));
        }
        DUE.text(what, Due.show(desk, 6), Model.write(want));
    }

    private static void tooGreat(String what, PolynomialBench desk, ToIntFunction<PolynomialBench> call) {
        DUE.thrown(what, desk, Due.STATE, () -> call.applyAsInt(desk));
    }

    private static void newDesk() {
        PolynomialBench desk = new PolynomialBench();
        for (int place = 0; place < 8; place++) {
            DUE.same("the degree of a new place", desk.degree(place), -1);
            DUE.same("a new place written", desk.write(place), 1);
            DUE.text("a new place written", Due.page(desk), "0");
        }
        DUE.same("nothing to undo", desk.undo(), PolynomialBench.NONE);
        DUE.same("no points", desk.clearPoints(), 0);
        DUE.same("no text", desk.type(0), 0);
        DUE.same("no page", new PolynomialBench().pageLength(), 0);
        DUE.same("all degrees are -1", desk.meanDegree(), -1.0);
        DUE.same("all are 0", desk.zeroShare(), 1.0f);
        DUE.same("NONE", PolynomialBench.NONE, -1);
    }

    private static void desksStandForThemselves() {
        PolynomialBench one = new PolynomialBench();
        PolynomialBench other = new PolynomialBench();
        Due.put(one, 0, "x^7");
        one.addPoint(1, 1);
        one.write(0);
        String[] fresh = Due.allOf(new PolynomialBench());
        String[] left = Due.allOf(other);
        for (int i = 0; i < fresh.length; i++) {
            DUE.text("another desk's " + Due.PARTS[i], left[i], fresh[i]);
        }
    }

    private static void eightPlaces() {
        PolynomialBench desk = new PolynomialBench();
        for (int place = 0; place < 8; place++) {
            DUE.same("set at " + place, desk.set(place, place, place + 1), place);
        }
        for (int place = 0; place < 8; place++) {
            DUE.same("each place has its own", desk.degree(place), place);
            DUE.same("each place has its own", desk.coefficient(place, place, 100), place + 1);
        }
        for (int place : Due.NO_PLACES) {
            DUE.thrown("the place " + place, desk, Due.PLACE, () -> desk.degree(place));
        }
    }

    private static void degrees() {
        PolynomialBench desk = new PolynomialBench();
        for (int exponent = 0; exponent < 8; exponent++) {
            DUE.same("up to " + exponent, desk.set(3, exponent, -1), exponent);
            DUE.same("degree " + exponent, desk.degree(3), exponent);
        }
        for (int exponent = 7; exponent >= 0; exponent--) {
            DUE.same("down from " + exponent, desk.set(3, exponent, 0), exponent - 1);
            DUE.same("degree " + (exponent - 1), desk.degree(3), exponent - 1);
        }
        DUE.same("over a gap", desk.set(3, 7, 5), 7);
        DUE.same("over a gap", desk.set(3, 0, 5), 7);
        DUE.same("over a gap", desk.set(3, 7, 0), 0);
    }

    private static void degreeSevenAndEight() {
        PolynomialBench desk = new PolynomialBench();
        for (int one = 0; one < 8; one++) {
            for (int other = 0; other < 8; other++) {
                desk.scale(0, 0, 0);
                desk.scale(1, 0, 1);
                desk.set(0, one, 1);
                desk.set(1, other, 1);
                String what = one + " and " + other;
                if (one + other < 8) {
                    fits("multiply " + what, desk, d -> d.multiply(0, 1, 6), term(ONE, one + other));
                } else {
                    tooGreat("multiply " + what, desk, d -> d.multiply(0, 1, 6));
                }
                if (one * other < 8) {
                    fits("compose " + what, desk, d -> d.compose(0, 1, 6), term(ONE, one * other));
                    int exponent = other;
                    fits("power " + what, desk, d -> d.power(0, exponent, 6), term(ONE, one * other));
                } else {
                    int exponent = other;
                    tooGreat("compose " + what, desk, d -> d.compose(0, 1, 6));
                    tooGreat("power " + what, desk, d -> d.power(0, exponent, 6));
                }
            }
        }
    }

    private static void zeroHasNoDegreeToAdd() {
        BigInteger[] seven = term(ONE, 7);
        BigInteger[] none = {};
        PolynomialBench desk = desk(seven);
        fits("0 times x^7", desk, d -> d.multiply(7, 0, 6), none);
        fits("x^7 times 0", desk, d -> d.multiply(0, 7, 6), none);
        fits("0 times 0", desk, d -> d.multiply(7, 7, 6), none);
        fits("0 into x^7", desk, d -> d.compose(0, 7, 6), none);
        fits("x^7 into 0", desk, d -> d.compose(7, 0, 6), none);
        fits("0 into 0", desk, d -> d.compose(7, 7, 6), none);
        fits("x^7 plus 0", desk, d -> d.add(0, 7, 6), seven);
        fits("0 plus x^7", desk, d -> d.add(7, 0, 6), seven);
        fits("0 less x^7", desk, d -> d.subtract(7, 0, 6), term(ONE.negate(), 7));
        fits("x^7 less x^7", desk, d -> d.subtract(0, 0, 6), none);
        fits("x^7 times the number 0", desk, d -> d.scale(0, 0, 6), none);
        fits("0 times a number", desk, d -> d.scale(7, Long.MIN_VALUE, 6), none);
        for (int exponent = 1; exponent < 8; exponent++) {
            int now = exponent;
            fits("the power " + exponent + " of 0", desk, d -> d.power(7, now, 6), none);
        }
        fits("the power 0 of 0", desk, d -> d.power(7, 0, 6), term(ONE, 0));
        fits("the power 0 of x^7", desk, d -> d.power(0, 0, 6), term(ONE, 0));
        fits("the slope of 0", desk, d -> d.slope(7, 6), none);
        fits("the primitive part of 0", desk, d -> d.primitive(7, 6), none);
    }

    private static void fortyDigitsOfSums() {
        for (int exponent = 0; exponent < 8; exponent++) {
            BigInteger[] most = term(MOST, exponent);
            BigInteger[] less = term(MOST.subtract(ONE), exponent);
            BigInteger[] one = term(ONE, exponent);
            BigInteger[] minus = term(MOST.negate(), exponent);
            BigInteger[] minusLess = term(MOST.subtract(ONE).negate(), exponent);
            PolynomialBench desk = desk(most, less, one, minus, minusLess);
            fits("add up to 40 digits", desk, d -> d.add(1, 2, 6), most);
            fits("add up to 40 digits", desk, d -> d.add(2, 1, 6), most);
            fits("subtract down to 40 digits", desk, d -> d.subtract(4, 2, 6), minus);
            fits("copy 40 digits", desk, d -> d.copy(0, 6), most);
            fits("from 40 digits to 0", desk, d -> d.add(0, 3, 6), new BigInteger[0]);
            tooGreat("add up to 41 digits", desk, d -> d.add(0, 2, 6));
            tooGreat("add up to 41 digits", desk, d -> d.add(2, 0, 6));
            tooGreat("subtract up to 41 digits", desk, d -> d.subtract(0, 3, 6));
            tooGreat("subtract down to 41 digits", desk, d -> d.subtract(3, 2, 6));
            tooGreat("add down to 41 digits", desk, d -> d.add(3, 3, 6));
        }
    }

    private static void fortyDigitsOfProducts() {
        BigInteger twenty = BigInteger.TEN.pow(20);
        BigInteger[] up = term(twenty.add(ONE), 3);
        BigInteger[] down = term(twenty.subtract(ONE), 4);
        PolynomialBench desk = desk(up, down, term(twenty, 3), term(twenty, 4), term(twenty.negate(), 4));
        fits("multiply up to 40 digits", desk, d -> d.multiply(0, 1, 6), term(MOST, 7));
        tooGreat("multiply up to 41 digits", desk, d -> d.multiply(2, 3, 6));
        tooGreat("multiply down to 41 digits", desk, d -> d.multiply(2, 4, 6));
        for (int exponent = 0; exponent < 8; exponent++) {
            BigInteger ninth = MOST.divide(whole(9));
            PolynomialBench row = desk(term(ninth, exponent), term(BigInteger.TEN.pow(39), exponent), term(MOST, exponent));
            fits("scale up to 40 digits", row, d -> d.scale(0, 9, 6), term(MOST, exponent));
            fits("scale down to 40 digits", row, d -> d.scale(0, -9, 6), term(MOST.negate(), exponent));
            fits("scale 40 digits by 1", row, d -> d.scale(2, 1, 6), term(MOST, exponent));
            fits("scale 40 digits by -1", row, d -> d.scale(2, -1, 6), term(MOST.negate(), exponent));
            fits("scale 40 digits by 0", row, d -> d.scale(2, 0, 6), new BigInteger[0]);
            tooGreat("scale up to 41 digits", row, d -> d.scale(1, 10, 6));
            tooGreat("scale down to 41 digits", row, d -> d.scale(1, -10, 6));
        }
        scaleByLongs(Long.MAX_VALUE);
        scaleByLongs(Long.MIN_VALUE);
        scaleByLongs(Long.MIN_VALUE + 1);
        scaleByLongs(Integer.MIN_VALUE);
    }

    /** The last number that fits if it is taken times the factor, and the first one that does not. */
    private static void scaleByLongs(long factor) {
        BigInteger last = MOST.divide(whole(factor).abs());
        PolynomialBench desk = desk(term(last, 5), term(last.add(ONE), 5));
        fits("scale by " + factor, desk, d -> d.scale(0, factor, 6), term(last.multiply(whole(factor)), 5));
        tooGreat("scale by " + factor, desk, d -> d.scale(1, factor, 6));
    }

    private static void fortyDigitsOfPowers() {
        for (int exponent = 1; exponent < 8; exponent++) {
            BigInteger last = ZERO;
            for (int bit = 135; bit >= 0; bit--) {
                BigInteger next = last.setBit(bit);
                last = next.pow(exponent).compareTo(MOST) <= 0 ? next : last;
            }
            int now = exponent;
            PolynomialBench desk = desk(term(last, 1), term(last.negate(), 0));
            fits("the power " + exponent, desk, d -> d.power(0, now, 6), term(last.pow(now), now));
            fits("the power " + exponent, desk, d -> d.power(1, now, 6), term(last.negate().pow(now), 0));
            fits("the power 0", desk, d -> d.power(0, 0, 6), term(ONE, 0));
            if (exponent > 1) {
                PolynomialBench next = desk(term(last.add(ONE), 1), term(last.add(ONE).negate(), 0));
                tooGreat("the power " + exponent, next, d -> d.power(0, now, 6));
                tooGreat("the power " + exponent, next, d -> d.power(1, now, 6));
            }
        }
    }

    private static void fortyDigitsOfComposed() {
        BigInteger twenty = BigInteger.TEN.pow(20);
        PolynomialBench desk = desk(term(ONE, 2), new BigInteger[] {ONE.negate(), ZERO, ONE}, term(twenty, 3),
            term(ONE.negate(), 2), term(twenty.subtract(ONE), 3));
        fits("compose, too great on the way alone", desk(new BigInteger[] {ONE.negate(), ZERO, ONE}, term(twenty, 0)),
            d -> d.compose(0, 1, 6), term(MOST, 0));
        fits("compose below 0", desk(new BigInteger[] {ONE, ZERO, ONE.negate()}, term(twenty, 0)),
            d -> d.compose(0, 1, 6), term(MOST.negate(), 0));
        fits("compose up to 40 digits", desk, d -> d.compose(0, 4, 6), term(twenty.subtract(ONE).pow(2), 6));
        tooGreat("compose up to 41 digits", desk, d -> d.compose(0, 2, 6));
        tooGreat("compose down to 41 digits", desk, d -> d.compose(3, 2, 6));
        tooGreat("one coefficient of 41 digits is enough", desk, d -> d.compose(1, 2, 6));
    }

    private static void fortyDigitsOfSlopes() {
        for (int exponent = 1; exponent < 8; exponent++) {
            BigInteger last = MOST.divide(whole(exponent));
            PolynomialBench desk = desk(term(last, exponent), term(last.negate(), exponent), term(MOST, 0));
            fits("slope", desk, d -> d.slope(0, 6), term(last.multiply(whole(exponent)), exponent - 1));
            fits("slope", desk, d -> d.slope(1, 6), term(last.multiply(whole(-exponent)), exponent - 1));
            fits("the slope of a number", desk, d -> d.slope(2, 6), new BigInteger[0]);
            if (exponent > 1) {
                PolynomialBench next = desk(term(last.add(ONE), exponent), term(last.add(ONE).negate(), exponent));
                tooGreat("slope up to 41 digits", next, d -> d.slope(0, 6));
                tooGreat("slope down to 41 digits", next, d -> d.slope(1, 6));
            }
        }
    }

    private static void quotient(BigInteger lead, BigInteger coefficient, boolean fits) {
        // lead^2 times (coefficient x) is (lead * coefficient x) times lead.
        PolynomialBench desk = desk(term(coefficient, 1), term(lead, 0));
        if (fits) {
            DUE.same("divide", desk.divide(0, 1, 6, 5), 2);
            DUE.text("the quotient", Due.show(desk, 6), Model.write(term(coefficient.multiply(lead), 1)));
            DUE.text("the rest", Due.show(desk, 5), "0");
        } else {
            tooGreat("a quotient of 41 digits", desk, d -> d.divide(0, 1, 6, 5));
        }
    }

    private static void fortyDigitsOfQuotients() {
        quotient(whole(9), MOST.divide(whole(9)), true);
        quotient(whole(-9), MOST.divide(whole(9)), true);
        quotient(whole(10), BigInteger.TEN.pow(39), false);
        quotient(whole(-10), BigInteger.TEN.pow(39), false);
        quotient(MOST, ONE, true);
        quotient(ONE, MOST, true);
    }

    private static void rest(BigInteger line, BigInteger root, boolean fits) {
        // x + line is 1 times (x - root), and line + root is left.
        PolynomialBench desk = desk(new BigInteger[] {line, ONE}, new BigInteger[] {root.negate(), ONE});
        if (fits) {
            DUE.same("divide", desk.divide(0, 1, 6, 5), 1);
            DUE.text("the quotient", Due.show(desk, 6), "1");
            DUE.text("the rest", Due.show(desk, 5), line.add(root).toString());
        } else {
            tooGreat("a rest of 41 digits", desk, d -> d.divide(0, 1, 6, 5));
        }
    }

    private static void fortyDigitsOfRests() {
        rest(ZERO, MOST, true);
        rest(ZERO, MOST.negate(), true);
        rest(ONE, MOST.subtract(ONE), true);
        rest(ONE, MOST, false);
        rest(ONE.negate(), MOST.negate(), false);
        rest(MOST, MOST.negate(), true);
        rest(MOST, MOST, false);
    }

    private static void fortyDigitsOfDivisors() {
        BigInteger[] line = {MOST.subtract(ONE), MOST};
        PolynomialBench desk = desk(line, term(MOST, 7));
        fits("a greatest divisor of 40 digits", desk, d -> d.gcd(0, 0, 6), line);
        fits("a greatest divisor of 40 digits", desk, d -> d.gcd(0, 7, 6), line);
        fits("a greatest divisor of 40 digits", desk, d -> d.gcd(7, 0, 6), line);
        fits("a part of 40 digits", desk, d -> d.part(0, 1, 6), line);
        fits("a primitive part of 40 digits", desk, d -> d.primitive(0, 6), line);
        fits("x^7 with 40 digits", desk, d -> d.primitive(1, 6), term(ONE, 7));
        // Divisors of 40 and of 41 digits of polynomials that have 40.
        for (long more : new long[] {0, 1}) {
            BigInteger size = more == 0 ? new BigInteger("70000000000000000000") : new BigInteger("90000000000000000000");
            BigInteger[] factor = {size.negate(), size.add(ONE)};
            BigInteger[] square = Model.product(factor, factor);
            PolynomialBench two = desk(Model.product(square, new BigInteger[] {ONE, ONE, ONE}),
                Model.product(square, new BigInteger[] {ONE, ONE}));
            boolean fit = square[1].abs().compareTo(MOST) <= 0;
            DUE.is("the divisor has 40 digits", fit, more == 0);
            if (fit) {
                fits("gcd", two, d -> d.gcd(0, 1, 6), square);
            } else {
                tooGreat("gcd", two, d -> d.gcd(0, 1, 6));
            }
        }
    }

    /** What is too great on the way does not count, only what would stand at the place. */
    private static void onlyTheResultCounts() {
        BigInteger[] great = {MOST, MOST, MOST};
        BigInteger[] other = {MOST, MOST.subtract(ONE)};
        PolynomialBench desk = desk(great, other, new BigInteger[] {ONE, ONE});
        fits("gcd of great ones", desk, d -> d.gcd(0, 1, 6), term(ONE, 0));
        fits("a part that there is not", desk, d -> d.part(0, 2, 6), term(ONE, 0));
        fits("part of great ones", desk, d -> d.part(0, 1, 6), new BigInteger[] {ONE, ONE, ONE});
        // (x - a)(x + a) + x at a: the value on the way has 41 digits.
        BigInteger a = BigInteger.TEN.pow(20);
        PolynomialBench near = desk(new BigInteger[] {a.pow(2).subtract(ONE).negate(), ZERO, ONE}, term(a, 0));
        fits("compose", near, d -> d.compose(0, 1, 6), term(ONE, 0));
    }

    private static void setAlwaysFits() {
        BigInteger[] all = new BigInteger[8];
        Arrays.fill(all, MOST.negate());
        PolynomialBench desk = desk(all);
        for (int exponent = 0; exponent < 8; exponent++) {
            for (long number : new long[] {Long.MIN_VALUE, Long.MAX_VALUE, -1, 1}) {
                DUE.same("set", desk.set(0, exponent, number), 7);
                all[exponent] = whole(number);
                DUE.text("set", Due.show(desk, 0), Model.write(all));
            }
        }
    }

    private static void contentAndPrimitivePart() {
        BigInteger[] most = new BigInteger[8];
        Arrays.fill(most, MOST.negate());
        BigInteger[] ones = new BigInteger[8];
        Arrays.fill(ones, ONE);
        PolynomialBench desk = desk(most, term(MOST.negate(), 0), new BigInteger[] {MOST, MOST.subtract(ONE)});
        desk.writeContent(0);
        DUE.text("the content of 40 digits", Due.page(desk), MOST.toString());
        desk.writeContent(1);
        DUE.text("the content of a number below 0", Due.page(desk), MOST.toString());
        desk.writeContent(2);
        DUE.text("the content 1", Due.page(desk), "1");
        DUE.same("the content of 0", desk.writeContent(7), 1);
        DUE.text("the content of 0", Due.page(desk), "0");
        fits("primitive", desk, d -> d.primitive(0, 6), ones);
        fits("primitive of a number", desk, d -> d.primitive(1, 6), term(ONE, 0));
        fits("primitive of 0", desk, d -> d.primitive(7, 6), new BigInteger[0]);
        PolynomialBench small = Due.desk("-2x+4", "2x-4", "4", "-1", "-x^7", "2x^3+4x");
        String[] wants = {"x-2", "x-2", "1", "1", "x^7", "x^3+2x"};
        for (int place = 0; place < wants.length; place++) {
            int of = place;
            small.primitive(of, 6);
            DUE.text("primitive", Due.show(small, 6), wants[place]);
        }
    }

    private static void latestEightChanges() {
        for (int made = 0; made <= 20; made++) {
            PolynomialBench desk = new PolynomialBench();
            for (int i = 1; i <= made; i++) {
                desk.set(i % 3, 0, i);
            }
            int kept = Math.min(made, 8);
            for (int left = kept - 1; left >= 0; left--) {
                DUE.same("undo " + made + " changes", desk.undo(), left);
                int last = made - kept + left;
                for (int place = 0; place < 3; place++) {
                    // The last of the changes 1 to last that put something at the place.
                    int due = last - Math.floorMod(last - place, 3);
                    DUE.text("place " + place + " behind " + last, Due.show(desk, place), due < 1 ? "0" : "" + due);
                }
            }
            String before = Due.places(desk);
            DUE.same("undo more than " + kept, desk.undo(), PolynomialBench.NONE);
            DUE.same("undo more than " + kept, desk.undo(), PolynomialBench.NONE);
            DUE.text("nothing is undone then", Due.places(desk), before);
        }
    }

    private static void changesBehindUndo() {
        for (int undone = 0; undone <= 8; undone++) {
            for (int more = 0; more <= 9; more++) {
                PolynomialBench desk = new PolynomialBench();
                for (int i = 1; i <= 8; i++) {
                    desk.set(0, 0, i);
                }
                for (int i = 0; i < undone; i++) {
                    desk.undo();
                }
                for (int i = 1; i <= more; i++) {
                    desk.set(0, 0, 100 + i);
                }
                int kept = Math.min(8 - undone + more, 8);
                String what = "8 changes, " + undone + " undone, " + more + " made";
                for (int left = kept - 1; left >= 0; left--) {
                    DUE.same(what, desk.undo(), left);
                }
                DUE.same(what, desk.undo(), PolynomialBench.NONE);
                int dropped = 8 - undone + more - kept;
                int oldest = dropped > 8 - undone ? 100 + dropped - (8 - undone) : dropped;
                DUE.text(what, Due.show(desk, 0), "" + oldest);
            }
        }
    }

    private static void undoOfTwoPlaces() {
        for (int made = 0; made <= 8; made++) {
            PolynomialBench desk = Due.desk("x^3+5", "2x+1", "7", "8");
            for (int i = 0; i < made; i++) {
                desk.set(7, 0, i + 1);
            }
            String before = Due.places(desk);
            DUE.same("divide", desk.divide(0, 1, 2, 3), 3);
            DUE.is("both places are other", Due.show(desk, 2).equals("7") || Due.show(desk, 3).equals("8"), false);
            DUE.same("both are one change", desk.undo(), Math.min(4 + made, 7));
            DUE.text("both are undone", Due.places(desk), before);
        }
    }

    /** 511 calls, and the 512th one still answers as due. */
    private static void call512() {
        PolynomialBench desk = new PolynomialBench();
        for (int i = 1; i <= 511; i++) {
            DUE.same("call " + i, desk.set(i % 8, i % 7, i), i < 56 ? greatestSet(i) : 6);
        }
        DUE.same("call 512", desk.undo(), 7);
        PolynomialBench dear = Due.desk("x^7-14x^5+49x^3-36x", "7x^6-70x^4+147x^2-36");
        for (int i = 0; i < 480; i++) {
            DUE.same("errors again and again", dear.errors(0, 1), 0);
        }
        PolynomialBench last = new PolynomialBench();
        for (int i = 1; i <= 511; i++) {
            last.type(i <= 300 ? 'x' : 0);
        }
        DUE.same("call 512", last.clearText(), 300);
    }

    /** The greatest exponent that the calls 1 to i have set at the place of call i. */
    private static int greatestSet(int i) {
        int most = -1;
        for (int j = 1; j <= i; j++) {
            most = j % 8 == i % 8 ? Math.max(most, j % 7) : most;
        }
        return most;
    }
}
