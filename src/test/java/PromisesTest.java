import java.util.NoSuchElementException;

/** The promises 1 to 46, one method each: ordinary inputs, edges, wrong inputs. */
public final class PromisesTest {
    private static final Class<IndexOutOfBoundsException> PLACE = IndexOutOfBoundsException.class;
    private static final Class<IllegalArgumentException> RANGE = IllegalArgumentException.class;
    private static final Class<IllegalStateException> STATE = IllegalStateException.class;
    private static final Class<NoSuchElementException> NOTHING = NoSuchElementException.class;
    private static final int[] NO_PLACES = {-1, 8, Integer.MIN_VALUE, Integer.MAX_VALUE};

    private static final Due DUE = new Due("PromisesTest");

    public static void main(String[] args) {
        promise1NewObject();
        promise2Type();
        promise3ClearText();
        promises4And5Errors();
        promise6Read();
        promise7Set();
        promise8Write();
        promises9And10Page();
        promises11And12DegreeAndSign();
        promise13Coefficient();
        promise14Length();
        promise15IsSame();
        promise16Copy();
        promises17And18AddAndSubtract();
        promise19Multiply();
        promise20Scale();
        promise21Power();
        promise22Compose();
        promise23Slope();
        promise24Primitive();
        promise25WriteContent();
        promise26Divide();
        promise26DivideWrong();
        promise27Divides();
        promise28Gcd();
        promise29Resultant();
        promise30Discriminant();
        promise31Part();
        promise32SignAt();
        promise33Value();
        promise34Roots();
        promise35RootsUpTo();
        promise36Box();
        promise36BoxWrong();
        promises37And38WholeRoots();
        promise39RootsModulo();
        promises40And41Points();
        promise42Interpolate();
        promise43Undo();
        promise44Errors();
        promises45And46Means();
        DUE.end();
    }

    private static void promise1NewObject() {
        PolynomialBench desk = new PolynomialBench();
        DUE.same("NONE", PolynomialBench.NONE, -1);
        for (int place = 0; place < 8; place++) {
            DUE.same("degree of a new place", desk.degree(place), -1);
        }
        DUE.same("text of a new desk", desk.clearText(), 0);
        DUE.same("page of a new desk", desk.pageLength(), 0);
        DUE.same("points of a new desk", desk.clearPoints(), 0);
        DUE.same("changes of a new desk", desk.undo(), -1);
        PolynomialBench other = new PolynomialBench();
        other.set(0, 1, 5);
        DUE.same("another desk has places of its own", desk.degree(0), -1);
    }

    private static void promise2Type() {
        PolynomialBench desk = new PolynomialBench();
        DUE.same("type nothing", desk.type(0), 0);
        DUE.same("type one byte", desk.type('x'), 1);
        DUE.same("type with zeros between", desk.type(0x2b00_0000_0031_0000L), 3);
        DUE.same("the highest byte first", desk.read(0), 1);
        DUE.text("x+1", Due.show(desk, 0), "x+1");
        DUE.same("a number below 0", desk.type(-1), 11);
        for (int i = 0; i < 36; i++) {
            desk.type(0x2020202020202020L);
        }
        DUE.same("299", desk.type(0), 299);
        DUE.thrown("type too much", desk, STATE, () -> desk.type(0x3100000000000031L));
        DUE.same("300", desk.type(0x3100), 300);
        DUE.thrown("type one more", desk, STATE, () -> desk.type(1));
        DUE.same("nothing more fits always", desk.type(0), 300);
    }

    private static void promise3ClearText() {
        PolynomialBench desk = Due.desk("x");
        Due.type(desk, "5x^2");
        desk.write(0);
        DUE.same("clearText", desk.clearText(), 4);
        DUE.same("clearText again", desk.clearText(), 0);
        DUE.same("the page stays", desk.pageLength(), 1);
        Due.type(desk, "7");
        DUE.same("a text from the front", desk.read(0), 0);
    }

    private static void error(String text, int kind, int place) {
        PolynomialBench desk = new PolynomialBench();
        Due.type(desk, text);
        DUE.same("errorPlace of '" + text + "'", desk.errorPlace(), place);
        PolynomialBench other = new PolynomialBench();
        Due.type(other, text);
        DUE.same("errorKind of '" + text + "'", other.errorKind(), kind);
        if (kind != 0) {
            DUE.thrown("read '" + text + "'", desk, STATE, () -> desk.read(0));
        }
    }

    private static void promises4And5Errors() {
        String thirty = "012345678901234567890123456789";
        for (String fine : new String[] {"x", "0", "-0", "+x", " - 2 x ^ 3 + 1 ", "x^0", "x^007", "x^0000000000", "2x-x+x",
            thirty, thirty + "x^7", "x^000000000000000000000000000000000000007"}) {
            error(fine, 0, -1);
        }
        error("", 1, 0);
        error("   ", 1, 3);
        error("+", 1, 1);
        error("x-", 1, 2);
        error("x- ", 1, 3);
        error("x^", 1, 2);
        error("x^ ", 1, 3);
        error("+-x", 1, 1);
        error("x++1", 1, 2);
        error("X", 1, 0);
        error("2*x", 1, 1);
        error("xx", 1, 1);
        error("x2", 1, 1);
        error("x^-1", 1, 2);
        error("x^x", 1, 2);
        error("x^2^2", 1, 3);
        error("x^2x", 1, 3);
        error("^2", 1, 0);
        error("5^2", 1, 1);
        error("1 2", 1, 2);
        error("x^1 2", 1, 4);
        error("x 2", 1, 2);
        error("3\t", 1, 1);
        error("3" + (char) 255, 1, 1);
        error((char) 1 + "3", 1, 0);
        error("x^8", 2, 2);
        error("x ^ 10 y", 2, 4);
        error("x^0008", 2, 2);
        error("x^99999999999999999999999999999999", 2, 2);
        error("x+" + thirty + "0", 2, 2);
        error(" 0" + thirty, 2, 1);
        error(thirty + "0y", 2, 0);
        error(thirty + " 1", 1, 31);
        error("x+?" + thirty + "0", 1, 2);
        error("x^8+?", 2, 2);
        error("x^9999999" + thirty + thirty + " ?", 2, 2);
    }

    private static void promise6Read() {
        PolynomialBench desk = new PolynomialBench();
        DUE.same("read", Due.put(desk, 3, " 3 x^ 2 -x + 2x^2 - 7"), 2);
        DUE.text("read", Due.show(desk, 3), "5x^2-x-7");
        DUE.same("the text stays", desk.read(4), 2);
        DUE.is("read twice", desk.isSame(3, 4), true);
        DUE.same("what falls away", Due.put(desk, 3, "x^7-x^7+0x^3+2-2"), -1);
        DUE.same("long", Due.put(desk, 3, "-999999999999999999999999999999x^7-999999999999999999999999999999x^7"), 7);
        DUE.text("long", Due.show(desk, 3), "-1999999999999999999999999999998x^7");
        desk.clearText();
        for (int place : NO_PLACES) {
            DUE.thrown("read without a place or a text", desk, PLACE, () -> desk.read(place));
        }
        DUE.thrown("read an empty text", desk, STATE, () -> desk.read(0));
    }

    private static void promise7Set() {
        PolynomialBench desk = new PolynomialBench();
        DUE.same("set", desk.set(0, 7, Long.MIN_VALUE), 7);
        DUE.same("set", desk.set(0, 0, Long.MAX_VALUE), 7);
        DUE.text("set", Due.show(desk, 0), "-9223372036854775808x^7+9223372036854775807");
        DUE.same("set to 0", desk.set(0, 7, 0), 0);
        DUE.same("set all to 0", desk.set(0, 0, 0), -1);
        DUE.same("set what is 0 to 0", desk.set(0, 5, 0), -1);
        DUE.same("that was a change", desk.undo(), 4);
        DUE.thrown("set", desk, RANGE, () -> desk.set(0, 8, 1));
        DUE.thrown("set", desk, RANGE, () -> desk.set(7, -1, 1));
        for (int place : NO_PLACES) {
            DUE.thrown("set without a place or an exponent", desk, PLACE, () -> desk.set(place, 8, 1));
        }
    }

    private static void promise8Write() {
        String[] all = {"0", "1", "-1", "x", "-x", "x^2", "-x^7", "2x", "-12x^3", "x^7-x^6+x^5-x^4+x^3-x^2+x-1",
            "1000000000x^4-1000000000000000000", "10x^2+1", "100000000000000001x+20000000000"};
        for (String polynomial : all) {
            PolynomialBench desk = Due.desk(polynomial);
            DUE.same("write " + polynomial, desk.write(0), polynomial.length());
            DUE.text("write", Due.page(desk), polynomial);
        }
        PolynomialBench desk = Due.desk("x^2+0x+01", "5");
        DUE.text("write", Due.show(desk, 0), "x^2+1");
        DUE.text("write something shorter", Due.show(desk, 1), "5");
        for (int place : NO_PLACES) {
            DUE.thrown("write", desk, PLACE, () -> desk.write(place));
        }
    }

    private static void promises9And10Page() {
        PolynomialBench desk = Due.desk("-12x");
        DUE.thrown("pageAt of an empty page", desk, PLACE, () -> desk.pageAt(0));
        desk.write(0);
        DUE.same("pageLength", desk.pageLength(), 4);
        DUE.same("pageAt", desk.pageAt(0), '-');
        DUE.same("pageAt", desk.pageAt(3), 'x');
        for (int index : new int[] {-1, 4, Integer.MIN_VALUE, Integer.MAX_VALUE}) {
            DUE.thrown("pageAt " + index, desk, PLACE, () -> desk.pageAt(index));
        }
        desk.set(0, 1, 5);
        DUE.same("a change leaves the page", desk.pageLength(), 4);
    }

    private static void promises11And12DegreeAndSign() {
        PolynomialBench desk = Due.desk("-3x^5+4x", "9");
        DUE.same("degree", desk.degree(0), 5);
        DUE.same("degree", desk.degree(1), 0);
        DUE.same("degree", desk.degree(2), -1);
        DUE.same("sign", desk.sign(0, 5), -1);
        DUE.same("sign", desk.sign(0, 1), 1);
        DUE.same("sign of what is 0", desk.sign(0, 0), 0);
        for (int exponent : new int[] {-1, 7, 8, Integer.MIN_VALUE, Integer.MAX_VALUE}) {
            DUE.same("sign of what there is not", desk.sign(0, exponent), 0);
        }
        for (int place : NO_PLACES) {
            DUE.thrown("degree", desk, PLACE, () -> desk.degree(place));
            DUE.thrown("sign", desk, PLACE, () -> desk.sign(place, 0));
        }
    }

    private static void promise13Coefficient() {
        PolynomialBench desk = Due.desk("-7x^2+123456789012345678901234567890x-10");
        DUE.same("coefficient", desk.coefficient(0, 2, 5), 3);
        DUE.same("coefficient", desk.coefficient(0, 1, 1000000), 567890);
        DUE.same("coefficient", desk.coefficient(0, 0, 10), 0);
        DUE.same("coefficient", desk.coefficient(0, 0, Integer.MAX_VALUE), Integer.MAX_VALUE - 10);
        DUE.same("coefficient", desk.coefficient(0, 0, 2), 0);
        for (int exponent : new int[] {-1, 3, 8, Integer.MIN_VALUE, Integer.MAX_VALUE}) {
            DUE.same("coefficient of what there is not", desk.coefficient(0, exponent, 7), 0);
        }
        for (int modulus : new int[] {1, 0, -2, Integer.MIN_VALUE}) {
            DUE.thrown("coefficient by " + modulus, desk, RANGE, () -> desk.coefficient(0, 9, modulus));
            DUE.thrown("coefficient without a place", desk, PLACE, () -> desk.coefficient(8, 0, modulus));
        }
        DUE.thrown("coefficient", desk, PLACE, () -> desk.coefficient(-1, 0, 2));
    }

    private static void promise14Length() {
        PolynomialBench desk = new PolynomialBench();
        for (int bits = 0; bits < 63; bits++) {
            desk.set(0, 0, 1L << bits);
            desk.set(0, 1, -(1L << bits));
            desk.set(0, 2, (1L << bits) - 1);
            DUE.same("length", desk.length(0, 0), bits + 1);
            DUE.same("length", desk.length(0, 1), bits + 1);
            DUE.same("length", desk.length(0, 2), bits);
        }
        Due.put(desk, 0, "999999999999999999999999999999x^3");
        DUE.same("length", desk.length(0, 3), 100);
        for (int exponent : new int[] {-1, 2, 8, Integer.MIN_VALUE, Integer.MAX_VALUE}) {
            DUE.same("length of what there is not", desk.length(0, exponent), 0);
        }
        for (int place : NO_PLACES) {
            DUE.thrown("length", desk, PLACE, () -> desk.length(place, 0));
        }
    }

    private static void promise15IsSame() {
        PolynomialBench desk = Due.desk("x^2-1", "-1+x^2", "x^2+1", "x^2", "2x^2-1", "12345678901x");
        DUE.is("isSame", desk.isSame(0, 1), true);
        DUE.is("isSame", desk.isSame(0, 0), true);
        DUE.is("isSame, another sign", desk.isSame(0, 2), false);
        DUE.is("isSame, a term less", desk.isSame(0, 3), false);
        DUE.is("isSame, another size", desk.isSame(0, 4), false);
        DUE.is("isSame of 0", desk.isSame(6, 7), true);
        DUE.is("isSame with 0", desk.isSame(5, 7), false);
        for (int place : NO_PLACES) {
            DUE.thrown("isSame", desk, PLACE, () -> desk.isSame(place, 0));
            DUE.thrown("isSame", desk, PLACE, () -> desk.isSame(0, place));
        }
    }

    private static void promise16Copy() {
        PolynomialBench desk = Due.desk("x^2-1", "5");
        DUE.same("copy", desk.copy(0, 7), 2);
        DUE.text("copy", Due.show(desk, 7), "x^2-1");
        desk.set(0, 2, 3);
        DUE.text("a copy stands for itself", Due.show(desk, 7), "x^2-1");
        DUE.same("copy 0", desk.copy(6, 0), -1);
        DUE.same("copy to itself", desk.copy(1, 1), 0);
        DUE.same("that was a change", desk.undo(), 5);
        for (int place : NO_PLACES) {
            DUE.thrown("copy", desk, PLACE, () -> desk.copy(place, 0));
            DUE.thrown("copy", desk, PLACE, () -> desk.copy(0, place));
        }
    }

    private static void promises17And18AddAndSubtract() {
        PolynomialBench desk = Due.desk("x^3-999999999x+7", "-x^3-1x+8");
        DUE.same("add", desk.add(0, 1, 2), 1);
        DUE.text("add", Due.show(desk, 2), "-1000000000x+15");
        DUE.same("subtract", desk.subtract(0, 1, 3), 3);
        DUE.text("subtract", Due.show(desk, 3), "2x^3-999999998x-1");
        DUE.same("subtract from itself", desk.subtract(0, 0, 4), -1);
        DUE.same("subtract from 0", desk.subtract(7, 0, 5), 3);
        DUE.text("subtract from 0", Due.show(desk, 5), "-x^3+999999999x-7");
        DUE.same("add in place", desk.add(1, 1, 1), 3);
        DUE.text("add in place", Due.show(desk, 1), "-2x^3-2x+16");
        // 5 * 10^39 twice has 41 digits, less 1 it has 40.
        Due.put(desk, 0, "500000000000000000000000000000");
        desk.scale(0, 10_000_000_000L, 0);
        Due.put(desk, 1, "1");
        desk.subtract(0, 1, 1);
        DUE.thrown("add", desk, STATE, () -> desk.add(0, 0, 2));
        desk.scale(0, -1, 3);
        DUE.thrown("subtract", desk, STATE, () -> desk.subtract(3, 0, 3));
        DUE.same("add", desk.add(0, 1, 2), 0);
        DUE.text("add", Due.show(desk, 2), "9999999999999999999999999999999999999999");
        DUE.same("subtract", desk.subtract(3, 1, 2), 0);
        DUE.text("subtract", Due.show(desk, 2), "-9999999999999999999999999999999999999999");
        for (int place : NO_PLACES) {
            DUE.thrown("add", desk, PLACE, () -> desk.add(place, 0, 0));
            DUE.thrown("add", desk, PLACE, () -> desk.add(0, place, 0));
            DUE.thrown("add too much, without a place", desk, PLACE, () -> desk.add(0, 0, place));
            DUE.thrown("subtract", desk, PLACE, () -> desk.subtract(place, 0, 0));
            DUE.thrown("subtract", desk, PLACE, () -> desk.subtract(0, place, 0));
            DUE.thrown("subtract too much, without a place", desk, PLACE, () -> desk.subtract(3, 0, place));
        }
    }

    private static void promise19Multiply() {
        PolynomialBench desk = Due.desk("x^4-2x+1", "3x^3+x", "x^4");
        DUE.same("multiply", desk.multiply(0, 1, 3), 7);
        DUE.text("multiply", Due.show(desk, 3), "3x^7+x^5-6x^4+3x^3-2x^2+x");
        DUE.same("multiply by 0", desk.multiply(3, 7, 4), -1);
        DUE.same("multiply 0 by 0", desk.multiply(6, 7, 4), -1);
        DUE.thrown("multiply, degree 8", desk, STATE, () -> desk.multiply(0, 2, 5));
        DUE.same("multiply in place", desk.multiply(1, 1, 1), 6);
        DUE.text("multiply in place", Due.show(desk, 1), "9x^6+6x^4+x^2");
        for (int place : NO_PLACES) {
            DUE.thrown("multiply", desk, PLACE, () -> desk.multiply(place, 2, 2));
            DUE.thrown("multiply", desk, PLACE, () -> desk.multiply(2, place, 2));
            DUE.thrown("multiply too much, without a place", desk, PLACE, () -> desk.multiply(2, 2, place));
        }
    }

    private static void promise20Scale() {
        PolynomialBench desk = Due.desk("x^7-3");
        DUE.same("scale", desk.scale(0, -5, 1), 7);
        DUE.text("scale", Due.show(desk, 1), "-5x^7+15");
        DUE.same("scale by the least number", desk.scale(0, Long.MIN_VALUE, 1), 7);
        DUE.text("scale by the least number", Due.show(desk, 1), "-9223372036854775808x^7+27670116110564327424");
        DUE.same("scale by 0", desk.scale(0, 0, 1), -1);
        Due.put(desk, 2, "100000000000000000000000000000x");
        DUE.same("scale", desk.scale(2, 99_999_999_999L, 3), 1);
        DUE.thrown("scale", desk, STATE, () -> desk.scale(2, 100_000_000_000L, 3));
        for (int place : NO_PLACES) {
            DUE.thrown("scale", desk, PLACE, () -> desk.scale(place, 1, 0));
            DUE.thrown("scale too much, without a place", desk, PLACE, () -> desk.scale(2, Long.MAX_VALUE, place));
        }
    }

    private static void promise21Power() {
        PolynomialBench desk = Due.desk("x-2", "x^2", "x^4", "10");
        DUE.same("power", desk.power(0, 7, 4), 7);
        DUE.text("power", Due.show(desk, 4), "x^7-14x^6+84x^5-280x^4+560x^3-672x^2+448x-128");
        DUE.same("power 1", desk.power(0, 1, 4), 1);
        DUE.same("power 0", desk.power(0, 0, 4), 0);
        DUE.text("power 0", Due.show(desk, 4), "1");
        DUE.same("power 0 of 0", desk.power(7, 0, 4), 0);
        DUE.text("power 0 of 0", Due.show(desk, 4), "1");
        DUE.same("power 7 of 0", desk.power(7, 7, 4), -1);
        DUE.same("power", desk.power(1, 3, 4), 6);
        DUE.thrown("power, degree 8", desk, STATE, () -> desk.power(1, 4, 4));
        DUE.thrown("power, degree 8", desk, STATE, () -> desk.power(2, 2, 4));
        DUE.same("power of a number", desk.power(3, 7, 3), 0);
        DUE.same("power of a number", desk.power(3, 5, 4), 0);
        DUE.thrown("power too great", desk, STATE, () -> desk.power(3, 6, 4));
        DUE.thrown("power 8", desk, RANGE, () -> desk.power(2, 8, 4));
        DUE.thrown("power -1", desk, RANGE, () -> desk.power(2, -1, 4));
        for (int place : NO_PLACES) {
            DUE.thrown("power", desk, PLACE, () -> desk.power(place, 8, 0));
            DUE.thrown("power", desk, PLACE, () -> desk.power(2, 8, place));
        }
    }

    private static void promise22Compose() {
        PolynomialBench desk = Due.desk("x^2-3x+1", "2x^3+1", "x^4", "5", "x^7-1", "-x+1");
        DUE.same("compose", desk.compose(0, 1, 6), 6);
        DUE.text("compose", Due.show(desk, 6), "4x^6-2x^3-1");
        DUE.same("the outer one is the first", desk.compose(1, 0, 6), 6);
        DUE.text("compose", Due.show(desk, 6), "2x^6-18x^5+60x^4-90x^3+60x^2-18x+3");
        DUE.same("compose with a number", desk.compose(0, 3, 6), 0);
        DUE.text("compose with a number", Due.show(desk, 6), "11");
        DUE.same("compose a number", desk.compose(3, 4, 6), 0);
        DUE.same("compose with 0", desk.compose(4, 7, 6), 0);
        DUE.text("compose with 0", Due.show(desk, 6), "-1");
        DUE.same("compose 0", desk.compose(7, 4, 6), -1);
        DUE.same("compose 0 with 0", desk.compose(7, 7, 6), -1);
        DUE.same("compose", desk.compose(4, 5, 6), 7);
        DUE.text("compose", Due.show(desk, 6), "-x^7+7x^6-21x^5+35x^4-35x^3+21x^2-7x");
        DUE.same("what falls away", desk.compose(5, 5, 6), 1);
        DUE.text("what falls away", Due.show(desk, 6), "x");
        DUE.thrown("compose, degree 8", desk, STATE, () -> desk.compose(0, 2, 6));
        DUE.thrown("compose, degree 49", desk, STATE, () -> desk.compose(4, 4, 6));
        Due.put(desk, 6, "1000000");
        DUE.thrown("compose, too great", desk, STATE, () -> desk.compose(4, 6, 6));
        for (int place : NO_PLACES) {
            DUE.thrown("compose", desk, PLACE, () -> desk.compose(place, 4, 6));
            DUE.thrown("compose", desk, PLACE, () -> desk.compose(4, place, 6));
            DUE.thrown("compose too much, without a place", desk, PLACE, () -> desk.compose(4, 4, place));
        }
    }

    private static void promise23Slope() {
        PolynomialBench desk = Due.desk("x^7-3x^3+5x-9", "4", "2000000000000000000000000000x^5");
        DUE.same("slope", desk.slope(0, 3), 6);
        DUE.text("slope", Due.show(desk, 3), "7x^6-9x^2+5");
        DUE.same("slope of a number", desk.slope(1, 3), -1);
        DUE.same("slope of 0", desk.slope(7, 3), -1);
        desk.scale(2, 1_000_000_000_000L, 2);
        DUE.thrown("slope", desk, STATE, () -> desk.slope(2, 2));
        for (int place : NO_PLACES) {
            DUE.thrown("slope", desk, PLACE, () -> desk.slope(place, 0));
            DUE.thrown("slope too great, without a place", desk, PLACE, () -> desk.slope(2, place));
        }
        DUE.same("slope in place", desk.slope(0, 0), 6);
    }

    private static void promise24Primitive() {
        PolynomialBench desk = Due.desk("-6x^3+9x-12", "-5", "x^2+2", "7");
        DUE.same("primitive", desk.primitive(0, 4), 3);
        DUE.text("primitive", Due.show(desk, 4), "2x^3-3x+4");
        DUE.same("primitive of a number", desk.primitive(1, 4), 0);
        DUE.text("primitive of a number", Due.show(desk, 4), "1");
        DUE.same("primitive", desk.primitive(2, 2), 2);
        DUE.text("primitive", Due.show(desk, 2), "x^2+2");
        DUE.same("primitive of 0", desk.primitive(7, 3), -1);
        DUE.text("primitive of 0", Due.show(desk, 3), "0");
        for (int place : NO_PLACES) {
            DUE.thrown("primitive", desk, PLACE, () -> desk.primitive(place, 0));
            DUE.thrown("primitive", desk, PLACE, () -> desk.primitive(0, place));
        }
    }

    private static void promise25WriteContent() {
        PolynomialBench desk = Due.desk("-6x^3+9x-12", "-5", "x^2+2", "-123456789012345678900x^7");
        DUE.same("writeContent", desk.writeContent(0), 1);
        DUE.text("writeContent", Due.page(desk), "3");
        DUE.same("writeContent", desk.writeContent(1), 1);
        DUE.text("writeContent", Due.page(desk), "5");
        DUE.same("writeContent", desk.writeContent(2), 1);
        DUE.text("writeContent", Due.page(desk), "1");
        DUE.same("writeContent", desk.writeContent(3), 21);
        DUE.text("writeContent", Due.page(desk), "123456789012345678900");
        DUE.same("writeContent of 0", desk.writeContent(7), 1);
        DUE.text("writeContent of 0", Due.page(desk), "0");
        for (int place : NO_PLACES) {
            DUE.thrown("writeContent", desk, PLACE, () -> desk.writeContent(place));
        }
    }

    private static void division(String one, String by, int power, String quotient, String rest) {
        PolynomialBench desk = Due.desk(one, by);
        DUE.same("divide " + one + " by " + by, desk.divide(0, 1, 2, 3), power);
        DUE.text("quotient of " + one + " by " + by, Due.show(desk, 2), quotient);
        DUE.text("rest of " + one + " by " + by, Due.show(desk, 3), rest);
    }

    private static void promise26Divide() {
        division("x^3-1", "x-1", 3, "x^2+x+1", "0");
        division("x^2+1", "2x+1", 2, "2x-1", "5");
        division("x^2", "-3x+1", 2, "-3x-1", "1");
        division("x^3+x^2", "2x^2+1", 2, "2x+2", "-2x-2");
        division("4x^2+2", "2", 3, "16x^2+8", "0");
        division("5", "3", 1, "5", "0");
        division("x", "x^2", 0, "0", "x");
        division("0", "x", 0, "0", "0");
        division("0", "7", 0, "0", "0");
        division("3x", "2x", 1, "3", "0");
        // The rest falls by more than one degree at once: the power stays.
        division("x^3", "2x^2", 2, "2x", "0");
        division("x^7+1", "2x^2", 6, "32x^5", "64");
        PolynomialBench desk = Due.desk("x^2+1", "2x+1");
        DUE.same("divide in place", desk.divide(0, 1, 1, 0), 2);
        DUE.text("divide in place", Due.show(desk, 1), "2x-1");
        DUE.text("divide in place", Due.show(desk, 0), "5");
        DUE.same("both places are one change", desk.undo(), 2);
        DUE.text("undone", Due.show(desk, 0), "x^2+1");
        DUE.text("undone", Due.show(desk, 1), "2x+1");
    }

    private static void promise26DivideWrong() {
        PolynomialBench desk = Due.desk("x^2+1", "2x+1", "5", "100000000000000000000000000000x^7");
        String before = Due.sight(desk);
        DUE.same("divide by 0", desk.divide(0, 7, 1, 2), -1);
        DUE.text("divide by 0 is no change", Due.sight(desk), before);
        DUE.same("divide by 0 is no change", desk.undo(), 3);
        DUE.thrown("one place for both", desk, RANGE, () -> desk.divide(0, 1, 2, 2));
        DUE.thrown("one place for both, by 0", desk, RANGE, () -> desk.divide(0, 7, 0, 0));
        Due.put(desk, 2, "7000000000x+1");
        Due.put(desk, 3, "100000000000000000000000000000x^7");
        DUE.thrown("a quotient and a rest too great", desk, STATE, () -> desk.divide(3, 2, 4, 5));
        DUE.same("a quotient and a rest in vain", desk.degree(4) + desk.degree(5), -2);
        for (int place : NO_PLACES) {
            DUE.thrown("divide", desk, PLACE, () -> desk.divide(place, 1, 2, 2));
            DUE.thrown("divide", desk, PLACE, () -> desk.divide(3, place, 2, 2));
            DUE.thrown("divide", desk, PLACE, () -> desk.divide(3, 2, place, place));
            DUE.thrown("divide", desk, PLACE, () -> desk.divide(3, 2, 1, place));
        }
    }

    private static void promise27Divides() {
        PolynomialBench desk = Due.desk("x-1", "x^3-1", "2", "2x^2-4", "3x^2-3", "6x-6", "-x+1");
        DUE.is("divides", desk.divides(0, 1), true);
        DUE.is("the other way", desk.divides(1, 0), false);
        DUE.is("a number", desk.divides(2, 3), true);
        DUE.is("a number", desk.divides(2, 4), false);
        DUE.is("fractions do not count", desk.divides(5, 4), false);
        DUE.is("a content", desk.divides(0, 5), true);
        DUE.is("a sign", desk.divides(6, 0), true);
        DUE.is("itself", desk.divides(5, 5), true);
        DUE.is("into 0", desk.divides(5, 7), true);
        DUE.is("0 into something", desk.divides(7, 5), false);
        DUE.is("0 into 0", desk.divides(7, 7), true);
        for (int place : NO_PLACES) {
            DUE.thrown("divides", desk, PLACE, () -> desk.divides(place, 0));
            DUE.thrown("divides", desk, PLACE, () -> desk.divides(0, place));
        }
    }

    private static void greatest(String one, String other, String want) {
        PolynomialBench desk = Due.desk(one, other);
        int degree = desk.gcd(0, 1, 2);
        DUE.text("gcd of " + one + " and " + other, Due.show(desk, 2), want);
        DUE.same("its degree", degree, desk.degree(2));
        desk.gcd(1, 0, 1);
        DUE.text("gcd of " + other + " and " + one, Due.show(desk, 1), want);
    }

    private static void promise28Gcd() {
        greatest("x^2-1", "x^2-2x+1", "x-1");
        greatest("-4x^2+4", "6x+6", "x+1");
        greatest("4x^2-1", "4x^2+4x+1", "2x+1");
        greatest("x^2+1", "x^3+2", "1");
        greatest("6", "4", "1");
        greatest("6", "4x+2", "1");
        greatest("0", "-6x+4", "3x-2");
        greatest("0", "-8", "1");
        greatest("0", "0", "0");
        greatest("x^7-x", "x^5-x", "x^3-x");
        greatest("3x^6+6x^4+3x^2", "x^5+2x^3+x", "x^5+2x^3+x");
        PolynomialBench desk = new PolynomialBench();
        for (int place : NO_PLACES) {
            DUE.thrown("gcd", desk, PLACE, () -> desk.gcd(place, 0, 0));
            DUE.thrown("gcd", desk, PLACE, () -> desk.gcd(0, place, 0));
            DUE.thrown("gcd", desk, PLACE, () -> desk.gcd(0, 0, place));
        }
    }

    private static void resultant(String one, String other, String want) {
        PolynomialBench desk = Due.desk(one, other);
        int sign = want.equals("0") ? 0 : want.startsWith("-") ? -1 : 1;
        DUE.same("sign of the resultant of " + one + " and " + other, desk.resultant(0, 1), sign);
        DUE.text("resultant of " + one + " and " + other, Due.page(desk), want);
    }

    private static void promise29Resultant() {
        resultant("x-2", "x-5", "-3");
        resultant("x-5", "x-2", "3");
        resultant("x^2-1", "x-3", "8");
        resultant("x-3", "x^2-1", "8");
        resultant("x^3-1", "x-3", "-26");
        resultant("x-3", "x^3-1", "26");
        resultant("x^2+1", "x^2+1", "0");
        resultant("2x^2+1", "x^2-3", "49");
        resultant("5", "x^3", "125");
        resultant("x^3", "-5", "-125");
        resultant("5", "7", "1");
        resultant("-5", "-5", "1");
        resultant("0", "7", "0");
        resultant("x^2", "0", "0");
        resultant("0", "0", "0");
        resultant("x^4+x+1", "x^2", "1");
        resultant("-2x^4+x", "x^3+3", "-1029");
        PolynomialBench desk = new PolynomialBench();
        for (int place : NO_PLACES) {
            DUE.thrown("resultant", desk, PLACE, () -> desk.resultant(place, 0));
            DUE.thrown("resultant", desk, PLACE, () -> desk.resultant(0, place));
        }
    }

    private static void discriminant(String one, String want) {
        PolynomialBench desk = Due.desk(one);
        int sign = want.equals("0") ? 0 : want.startsWith("-") ? -1 : 1;
        DUE.same("sign of the discriminant of " + one, desk.discriminant(0), sign);
        DUE.text("discriminant of " + one, Due.page(desk), want);
    }

    private static void promise30Discriminant() {
        discriminant("x^2-3x+1", "5");
        discriminant("2x^2+3x+4", "-23");
        discriminant("-x^2+1", "4");
        discriminant("x^3-3x+1", "81");
        discriminant("x^3+x+1", "-31");
        discriminant("x^2-2x+1", "0");
        discriminant("-7x+3", "1");
        discriminant("8", "0");
        discriminant("0", "0");
        discriminant("x^4+1", "256");
        discriminant("x^5-1", "3125");
        discriminant("x^7-1", "-823543");
        PolynomialBench desk = new PolynomialBench();
        for (int place : NO_PLACES) {
            DUE.thrown("discriminant", desk, PLACE, () -> desk.discriminant(place));
        }
    }

    private static void promise31Part() {
        // 6 (x - 1) (2x + 1) (x + 2)^2 x^3, and less than 0.
        PolynomialBench desk = Due.desk("x-1", "2x+1", "x^2+4x+4", "-6x^3");
        desk.multiply(0, 1, 4);
        desk.multiply(4, 2, 4);
        desk.multiply(4, 3, 4);
        String[] parts = {"2x^2-x-1", "x+2", "x", "1", "1", "1", "1"};
        for (int times = 1; times <= 7; times++) {
            int degree = desk.part(4, times, 5);
            DUE.text("part " + times, Due.show(desk, 5), parts[times - 1]);
            DUE.same("its degree", degree, desk.degree(5));
        }
        Due.put(desk, 5, "2x+6");
        desk.power(5, 7, 5);
        DUE.same("part 7", desk.part(5, 7, 6), 1);
        DUE.text("part 7", Due.show(desk, 6), "x+3");
        DUE.same("part 1", desk.part(5, 1, 6), 0);
        Due.put(desk, 6, "-9");
        DUE.same("part of a number", desk.part(6, 1, 6), 0);
        DUE.text("part of a number", Due.show(desk, 6), "1");
        for (int times : new int[] {0, 8, -1, Integer.MIN_VALUE, Integer.MAX_VALUE}) {
            DUE.thrown("part of 0 as often as cannot be", desk, RANGE, () -> desk.part(7, times, 0));
        }
        DUE.thrown("part of 0", desk, STATE, () -> desk.part(7, 1, 0));
        for (int place : NO_PLACES) {
            DUE.thrown("part", desk, PLACE, () -> desk.part(place, 0, 0));
            DUE.thrown("part", desk, PLACE, () -> desk.part(7, 0, place));
        }
    }

    private static void wrongFractions(PolynomialBench desk) {
        for (long over : new long[] {-1000001, 1000001, Long.MIN_VALUE, Long.MAX_VALUE, 1L << 32}) {
            DUE.thrown("signAt", desk, RANGE, () -> desk.signAt(0, over, 1));
            DUE.thrown("value", desk, RANGE, () -> desk.value(0, over, 1));
            DUE.thrown("rootsUpTo", desk, RANGE, () -> desk.rootsUpTo(7, over, 1));
        }
        for (int under : new int[] {0, -1, 1001, Integer.MIN_VALUE, Integer.MAX_VALUE}) {
            DUE.thrown("signAt", desk, RANGE, () -> desk.signAt(0, 1, under));
            DUE.thrown("value", desk, RANGE, () -> desk.value(0, 1, under));
            DUE.thrown("rootsUpTo", desk, RANGE, () -> desk.rootsUpTo(7, 1, under));
        }
        for (int place : NO_PLACES) {
            DUE.thrown("signAt", desk, PLACE, () -> desk.signAt(place, 1, 0));
            DUE.thrown("value", desk, PLACE, () -> desk.value(place, 1, 0));
            DUE.thrown("rootsUpTo", desk, PLACE, () -> desk.rootsUpTo(place, 1, 0));
        }
    }

    private static void promise32SignAt() {
        PolynomialBench desk = Due.desk("4x^2-1", "-3");
        DUE.same("signAt", desk.signAt(0, 1, 2), 0);
        DUE.same("signAt", desk.signAt(0, 50, 100), 0);
        DUE.same("signAt", desk.signAt(0, 499, 1000), -1);
        DUE.same("signAt", desk.signAt(0, -501, 1000), 1);
        DUE.same("signAt", desk.signAt(0, -1000000, 1), 1);
        DUE.same("signAt", desk.signAt(0, 1000000, 1000), 1);
        DUE.same("signAt of a number", desk.signAt(1, 5, 7), -1);
        DUE.same("signAt of 0", desk.signAt(7, 5, 7), 0);
        wrongFractions(desk);
    }

    private static void value(String polynomial, long over, int under, String want) {
        PolynomialBench desk = Due.desk(polynomial);
        DUE.same("value of " + polynomial, desk.value(0, over, under), want.length());
        DUE.text("value of " + polynomial + " at " + over + "/" + under, Due.page(desk), want);
    }

    private static void promise33Value() {
        value("x^2+1", 1, 2, "5/4");
        value("x^2+1", -3, 1, "10");
        value("2x", 1, 2, "1");
        value("2x-1", 1, 2, "0");
        value("x^3", -2, 3, "-8/27");
        value("x^3", -4, 6, "-8/27");
        value("-7", 3, 9, "-7");
        value("0", 3, 9, "0");
        value("6x", 5, 9, "10/3");
        value("x^7", -1000000, 1, "-1000000000000000000000000000000000000000000");
        value("x^7", 1, 1000, "1/1000000000000000000000");
        value("x", 0, 1000, "0");
        wrongFractions(Due.desk("x"));
    }

    private static void promise34Roots() {
        String[] all = {"x^2-2", "x^2+1", "x^2", "x^3-x", "7", "-x", "x^7-14x^5+49x^3-36x", "x^4-2x^2+1", "x^6+x+1",
            "x^5-5x^4+10x^3-10x^2+5x-1", "-x^4+5x^2-4"};
        int[] counts = {2, 0, 1, 3, 0, 1, 7, 2, 0, 1, 4};
        PolynomialBench desk = new PolynomialBench();
        for (int i = 0; i < all.length; i++) {
            Due.put(desk, 0, all[i]);
            DUE.same("roots of " + all[i], desk.roots(0), counts[i]);
        }
        DUE.thrown("roots of 0", desk, STATE, () -> desk.roots(7));
        for (int place : NO_PLACES) {
            DUE.thrown("roots", desk, PLACE, () -> desk.roots(place));
        }
    }

    private static void promise35RootsUpTo() {
        PolynomialBench desk = Due.desk("2x^3-x^2-8x+4", "x^4-2x^2+1", "5");
        DUE.same("rootsUpTo", desk.rootsUpTo(0, -2001, 1000), 0);
        DUE.same("rootsUpTo", desk.rootsUpTo(0, -2, 1), 1);
        DUE.same("rootsUpTo", desk.rootsUpTo(0, 499, 1000), 1);
        DUE.same("rootsUpTo", desk.rootsUpTo(0, 1, 2), 2);
        DUE.same("rootsUpTo", desk.rootsUpTo(0, 1999, 1000), 2);
        DUE.same("rootsUpTo", desk.rootsUpTo(0, 1000000, 1), 3);
        DUE.same("rootsUpTo a root that occurs twice", desk.rootsUpTo(1, -1, 1), 1);
        DUE.same("rootsUpTo a root that occurs twice", desk.rootsUpTo(1, 1, 1), 2);
        DUE.same("rootsUpTo of a number", desk.rootsUpTo(2, 1, 1), 0);
        DUE.thrown("rootsUpTo of 0", desk, STATE, () -> desk.rootsUpTo(7, 0, 1));
        wrongFractions(desk);
    }

    private static void promise36Box() {
        PolynomialBench desk = Due.desk("x^2-2", "2x^3-x^2-8x+4", "x^4-2x^2+1", "x-500", "x+500", "256x+127999");
        DUE.same("box", desk.box(0, 1, 0), 1);
        DUE.same("box", desk.box(0, 0, 0), -2);
        DUE.same("box", desk.box(0, 1, 1), 2);
        DUE.same("box", desk.box(0, 1, 8), 362);
        DUE.same("box", desk.box(0, 0, 8), -363);
        DUE.same("a root at an edge is in the box below", desk.box(1, 0, 0), -3);
        DUE.same("a root at an edge", desk.box(1, 1, 1), 0);
        DUE.same("a root at an edge", desk.box(1, 1, 0), 0);
        DUE.same("a root at an edge", desk.box(1, 2, 8), 511);
        DUE.same("a root that occurs twice", desk.box(2, 1, 0), 0);
        DUE.same("the greatest root", desk.box(3, 0, 0), 499);
        DUE.same("the greatest root", desk.box(3, 0, 8), 127999);
        DUE.thrown("the root -500", desk, STATE, () -> desk.box(4, 0, 0));
        DUE.same("just above -500", desk.box(5, 0, 8), -128000);
        DUE.same("just above -500", desk.box(5, 0, 0), -500);
        Due.put(desk, 6, "256x-128001");
        DUE.thrown("just above 500", desk, STATE, () -> desk.box(6, 0, 8));
        Due.put(desk, 6, "x^2-1002x+2000");
        DUE.same("the near one", desk.box(6, 0, 0), 1);
        DUE.thrown("the far one", desk, STATE, () -> desk.box(6, 1, 0));
    }

    private static void promise36BoxWrong() {
        PolynomialBench desk = Due.desk("x^2-2", "x^2+1", "5", "x-501");
        for (int root : new int[] {-1, 2, Integer.MIN_VALUE, Integer.MAX_VALUE}) {
            DUE.thrown("box of no root", desk, PLACE, () -> desk.box(0, root, 9));
        }
        DUE.thrown("box without a root", desk, PLACE, () -> desk.box(1, 0, 0));
        DUE.thrown("box of a number", desk, PLACE, () -> desk.box(2, 0, 0));
        DUE.thrown("box of 0", desk, PLACE, () -> desk.box(7, 0, 9));
        for (int digits : new int[] {-1, 9, Integer.MIN_VALUE, Integer.MAX_VALUE, 32}) {
            DUE.thrown("box with too many digits", desk, RANGE, () -> desk.box(0, 0, digits));
            DUE.thrown("box far out with too many digits", desk, RANGE, () -> desk.box(3, 0, digits));
        }
        DUE.thrown("box far out", desk, STATE, () -> desk.box(3, 0, 8));
        for (int place : NO_PLACES) {
            DUE.thrown("box", desk, PLACE, () -> desk.box(place, 0, 9));
        }
    }

    private static void promises37And38WholeRoots() {
        PolynomialBench desk = Due.desk("x^4-1001x^3+1000x^2", "x^2-1000000", "x^2-1002001", "4x^2-1", "9",
            "x^7-14x^5+49x^3-36x", "999999937x^2-999999937");
        int[] counts = {3, 2, 0, 0, 0, 7, 2};
        for (int i = 0; i < counts.length; i++) {
            DUE.same("wholeRoots", desk.wholeRoots(i), counts[i]);
        }
        DUE.same("wholeRoot", desk.wholeRoot(0, 0), 0);
        DUE.same("wholeRoot", desk.wholeRoot(0, 1), 1);
        DUE.same("wholeRoot", desk.wholeRoot(0, 2), 1000);
        DUE.same("wholeRoot", desk.wholeRoot(1, 0), -1000);
        for (int i = 0; i < 7; i++) {
            DUE.same("wholeRoot", desk.wholeRoot(5, i), i - 3);
        }
        for (int index : new int[] {-1, 3, Integer.MIN_VALUE, Integer.MAX_VALUE}) {
            DUE.thrown("wholeRoot " + index, desk, NOTHING, () -> desk.wholeRoot(0, index));
            DUE.thrown("wholeRoot " + index + " of 0", desk, STATE, () -> desk.wholeRoot(7, index));
        }
        DUE.thrown("wholeRoot without any", desk, NOTHING, () -> desk.wholeRoot(4, 0));
        DUE.thrown("wholeRoots of 0", desk, STATE, () -> desk.wholeRoots(7));
        for (int place : NO_PLACES) {
            DUE.thrown("wholeRoots", desk, PLACE, () -> desk.wholeRoots(place));
            DUE.thrown("wholeRoot", desk, PLACE, () -> desk.wholeRoot(place, -1));
        }
    }

    private static void promise39RootsModulo() {
        PolynomialBench desk = Due.desk("x^2-1", "x^2+1", "6", "x^7-x");
        DUE.same("rootsModulo", desk.rootsModulo(0, 8), 4);
        DUE.same("rootsModulo", desk.rootsModulo(1, 5), 2);
        DUE.same("rootsModulo", desk.rootsModulo(1, 3), 0);
        DUE.same("rootsModulo", desk.rootsModulo(2, 3), 3);
        DUE.same("rootsModulo", desk.rootsModulo(2, 4), 0);
        DUE.same("rootsModulo", desk.rootsModulo(3, 7), 7);
        DUE.same("by 1", desk.rootsModulo(1, 1), 1);
        DUE.same("rootsModulo of 0", desk.rootsModulo(7, 1000), 1000);
        for (int modulus : new int[] {0, -1, 1001, Integer.MIN_VALUE, Integer.MAX_VALUE}) {
            DUE.thrown("rootsModulo " + modulus, desk, RANGE, () -> desk.rootsModulo(0, modulus));
            for (int place : NO_PLACES) {
                DUE.thrown("rootsModulo", desk, PLACE, () -> desk.rootsModulo(place, modulus));
            }
        }
    }

    private static void promises40And41Points() {
        PolynomialBench desk = new PolynomialBench();
        DUE.same("addPoint", desk.addPoint(-50, 1000000), 1);
        DUE.same("addPoint", desk.addPoint(50, -1000000), 2);
        DUE.thrown("a point with this x", desk, STATE, () -> desk.addPoint(50, 7));
        int[][] wrong = {{51, 0}, {-51, 0}, {0, 1000001}, {0, -1000001}, {Integer.MIN_VALUE, 0}, {0, Integer.MAX_VALUE},
            {50, 1000001}};
        for (int[] point : wrong) {
            DUE.thrown("addPoint", desk, RANGE, () -> desk.addPoint(point[0], point[1]));
        }
        DUE.same("nothing was added", desk.addPoint(0, 0), 3);
        for (int i = 1; i <= 5; i++) {
            DUE.same("addPoint", desk.addPoint(i, i), 3 + i);
        }
        DUE.thrown("a ninth point", desk, STATE, () -> desk.addPoint(10, 0));
        DUE.thrown("a ninth point out of range", desk, RANGE, () -> desk.addPoint(51, 0));
        DUE.same("points are no changes", desk.undo(), -1);
        DUE.same("clearPoints", desk.clearPoints(), 8);
        DUE.same("clearPoints", desk.clearPoints(), 0);
        DUE.same("addPoint", desk.addPoint(50, 0), 1);
    }

    private static void curve(int[][] points, long under, String want) {
        PolynomialBench desk = new PolynomialBench();
        for (int[] point : points) {
            desk.addPoint(point[0], point[1]);
        }
        DUE.same("interpolate " + want, desk.interpolate(2), under);
        DUE.text("interpolate " + want, Due.show(desk, 2), want);
        DUE.same("it was a change", desk.undo(), 0);
        DUE.same("the points stay", desk.clearPoints(), points.length);
    }

    private static void promise42Interpolate() {
        curve(new int[][] {}, 1, "0");
        curve(new int[][] {{5, -3}}, 1, "-3");
        curve(new int[][] {{0, 0}, {2, 1}}, 2, "x");
        curve(new int[][] {{2, 1}, {0, 0}}, 2, "x");
        curve(new int[][] {{0, 1}, {1, 2}, {2, 5}}, 1, "x^2+1");
        curve(new int[][] {{3, 0}, {-1, 0}, {7, 0}}, 1, "0");
        curve(new int[][] {{0, 0}, {1, 0}, {2, 1}}, 2, "x^2-x");
        curve(new int[][] {{-1, 4}, {1, 4}, {0, 4}}, 1, "4");
        curve(new int[][] {{0, 0}, {1, 1}, {2, 1}, {3, 2}}, 6, "2x^3-9x^2+13x");
        PolynomialBench desk = new PolynomialBench();
        int[] far = {-50, -37, -23, -3, 8, 21, 36, 50};
        int[] near = {-50, -5, -4, -2, 1, 3, 4, 50};
        int[] ys = {999983, -999979, 1, 2, 3, 5, 7, 11};
        for (int i = 0; i < 8; i++) {
            desk.addPoint(far[i], ys[i]);
        }
        DUE.thrown("d above 2^63 - 1", desk, STATE, () -> desk.interpolate(0));
        DUE.same("the points stay", desk.clearPoints(), 8);
        for (int i = 0; i < 8; i++) {
            desk.addPoint(near[i], ys[i]);
        }
        long under = desk.interpolate(0);
        for (int i = 0; i < 8; i++) {
            desk.value(0, near[i], 1);
            String want = java.math.BigInteger.valueOf(under).multiply(java.math.BigInteger.valueOf(ys[i])).toString();
            DUE.text("the value at a point", Due.page(desk), want);
        }
        DUE.same("d is the least one", gcdWithContent(desk, under), 1);
        desk.clearPoints();
        for (int i = 0; i < 8; i++) {
            desk.addPoint(far[i], ys[i]);
        }
        for (int place : NO_PLACES) {
            DUE.thrown("d too great, without a place", desk, PLACE, () -> desk.interpolate(place));
        }
    }

    private static long gcdWithContent(PolynomialBench desk, long under) {
        desk.writeContent(0);
        return new java.math.BigInteger(Due.page(desk)).gcd(java.math.BigInteger.valueOf(under)).longValue();
    }

    private static void promise43Undo() {
        PolynomialBench desk = new PolynomialBench();
        DUE.same("undo nothing", desk.undo(), -1);
        for (int i = 1; i <= 10; i++) {
            desk.set(i % 2, 0, i);
        }
        for (int i = 9; i >= 2; i--) {
            DUE.same("undo", desk.undo(), i - 2);
            DUE.text("undone", Due.show(desk, i % 2), "" + i);
            DUE.text("undone", Due.show(desk, 1 - i % 2), "" + (i - 1));
        }
        DUE.same("no more than 8", desk.undo(), -1);
        DUE.text("it stays", Due.show(desk, 0), "2");
        desk.set(5, 7, 1);
        DUE.same("undo", desk.undo(), 0);
        DUE.same("undone", desk.degree(5), -1);
        for (int i = 0; i < 8; i++) {
            desk.set(0, 1, 100 + i);
        }
        DUE.same("undo", desk.undo(), 7);
        desk.copy(0, 1);
        DUE.same("a place is free again", desk.undo(), 7);
        desk.set(0, 1, 5);
        desk.set(0, 1, 6);
        DUE.same("undo", desk.undo(), 7);
        DUE.thrown("what throws is no change", desk, RANGE, () -> desk.set(0, 9, 1));
        DUE.same("undo", desk.undo(), 6);
        DUE.text("undone", Due.show(desk, 0), "106x+2");
    }

    private static void promise44Errors() {
        String[] all = {"0", "5", "-x", "x^2-1", "6x^7-3x^2+9", "x^4-2x^2+1", "-x^7", "x-1000", "123456789012345678901x^5-7x"};
        for (String one : all) {
            for (String other : all) {
                PolynomialBench desk = Due.desk(one, other);
                desk.write(0);
                String before = Due.sight(desk);
                DUE.same("errors of " + one + " and " + other, desk.errors(0, 1), 0);
                DUE.text("errors changes nothing", Due.sight(desk), before);
                DUE.same("errors is no change", desk.undo(), 1);
            }
        }
        PolynomialBench desk = new PolynomialBench();
        for (int place : NO_PLACES) {
            DUE.thrown("errors", desk, PLACE, () -> desk.errors(place, 0));
            DUE.thrown("errors", desk, PLACE, () -> desk.errors(0, place));
        }
    }

    private static void promises45And46Means() {
        PolynomialBench desk = new PolynomialBench();
        DUE.same("meanDegree", desk.meanDegree(), -1.0);
        DUE.same("zeroShare", desk.zeroShare(), 1.0f);
        desk.set(0, 7, 1);
        desk.set(5, 0, -1);
        DUE.same("meanDegree", desk.meanDegree(), 0.125);
        DUE.same("zeroShare", desk.zeroShare(), 0.75f);
        for (int place = 0; place < 8; place++) {
            desk.set(place, 3, 1);
            desk.set(place, 7, 0);
        }
        DUE.same("meanDegree", desk.meanDegree(), 3.0);
        DUE.same("zeroShare", desk.zeroShare(), 0.0f);
    }
}
