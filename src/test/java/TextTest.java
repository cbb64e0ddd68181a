import java.math.BigInteger;
import java.util.Arrays;

/** Section 3 and the promises 1 to 10: each byte in each position, the full text, the first error, what is written. */
public final class TextTest {
    private static final String DIGITS = "0123456789";
    private static final String THIRTY = "9".repeat(30);

    private static final Due DUE = new Due("TextTest");

    public static void main(String[] args) {
        eachByteInEachPosition();
        onlyByte32IsABlank();
        blanksMeanNothing();
        noBlankWithinANumber();
        theTextEndsTooEarly();
        thirtyDigits();
        exponentsUpToSeven();
        theFirstErrorIsTold();
        coefficientsAreAddedUp();
        whatIsLeftOut();
        fullText();
        typingUpTo300();
        bytesOfANumber();
        emptyText();
        theTextStays();
        signsAndOnes();
        wholeNumbersAndFractions();
        thePage();
        theLongestPages();
        DUE.end();
    }

    private static PolynomialBench typed(String text) {
        PolynomialBench desk = new PolynomialBench();
        Due.type(desk, text);
        return desk;
    }

    private static void error(String text, int kind, int place) {
        PolynomialBench desk = typed(text);
        DUE.same("errorKind of '" + text + "'", desk.errorKind(), kind);
        DUE.same("errorPlace of '" + text + "'", desk.errorPlace(), place);
        if (kind != 0) {
            DUE.thrown("read '" + text + "'", desk, Due.STATE, () -> desk.read(0));
        }
    }

    /** What a text is read as, written. */
    private static void reads(String text, String want) {
        error(text, 0, PolynomialBench.NONE);
        PolynomialBench desk = typed(text);
        int degree = desk.read(0);
        DUE.text("read '" + text + "'", Due.show(desk, 0), want);
        DUE.same("the degree of '" + text + "'", degree, desk.degree(0));
    }

    /** Behind the front, each byte but the allowed ones is the first error; these ones are none. */
    private static void bytesBehind(String front, String allowed) {
        for (int letter = 1; letter < 256; letter++) {
            String text = front + (char) letter;
            PolynomialBench desk = typed(text);
            boolean bad = desk.errorKind() == 1 && desk.errorPlace() == front.length();
            DUE.is("the byte " + letter + " can stand behind '" + front + "'", !bad, allowed.indexOf(letter) >= 0);
            if (allowed.indexOf(letter) < 0) {
                // What comes behind the first error does not count.
                error(text + "x^8", 1, front.length());
                error(text + "0".repeat(31), 1, front.length());
            }
        }
    }

    private static void eachByteInEachPosition() {
        for (String start : new String[] {"", " ", "   "}) {
            bytesBehind(start, "+-x " + DIGITS);
            bytesBehind(start + "+", "x " + DIGITS);
            bytesBehind(start + "- ", "x " + DIGITS);
        }
        for (String before : new String[] {"", "+", "-", "x+", "x^3 - ", "5-", "+5x + "}) {
            bytesBehind(before + "7", "+-x " + DIGITS);
            bytesBehind(before + "70 ", "+-x ");
            bytesBehind(before + "70  ", "+-x ");
            bytesBehind(before + "x", "+-^ ");
            bytesBehind(before + "x ", "+-^ ");
            bytesBehind(before + "7x", "+-^ ");
            bytesBehind(before + "7 x  ", "+-^ ");
            bytesBehind(before + "x^", " " + DIGITS);
            bytesBehind(before + "x ^ ", " " + DIGITS);
            bytesBehind(before + "7x^0", "+- " + DIGITS);
            bytesBehind(before + "x ^ 7 ", "+- ");
            bytesBehind(before + "7x^07  ", "+- ");
            bytesBehind(before + "7+", "x " + DIGITS);
            bytesBehind(before + "x-", "x " + DIGITS);
            bytesBehind(before + "x^2 + ", "x " + DIGITS);
        }
    }

    private static void onlyByte32IsABlank() {
        for (int letter : new int[] {1, 9, 10, 11, 12, 13, 31, 33, 127, 128, 160, 255}) {
            error((char) letter + "x", 1, 0);
            error("x" + (char) letter, 1, 1);
            error("x +" + (char) letter + "1", 1, 3);
        }
        reads(" x", "x");
    }

    private static void blanksMeanNothing() {
        reads("   -   12   x   ^   3   +   x   -   4   ", "-12x^3+x-4");
        reads("-12x^3+x-4", "-12x^3+x-4");
        reads(" 0 ", "0");
    }

    private static void noBlankWithinANumber() {
        error("1 2", 1, 2);
        error("1   2", 1, 4);
        error("12 3x", 1, 3);
        error("x^1 2", 1, 4);
        error("x^ 0  7", 1, 6);
        error("+1 2", 1, 3);
        error("x+1 2", 1, 4);
        error("0 0", 1, 2);
    }

    private static void theTextEndsTooEarly() {
        for (String text : new String[] {"", " ", "     ", "+", "-", "+ ", " -  ", "x+", "x- ", "5-", "7x^", "x^  ", "x ^",
            "x^2+x^", "1+2-3+ "}) {
            error(text, 1, text.length());
        }
        reads("x", "x");
        reads("0", "0");
    }

    private static void thirtyDigits() {
        for (String number : new String[] {"9".repeat(30), "1" + "0".repeat(29), "0".repeat(29) + "1", "0".repeat(30)}) {
            String want = new BigInteger(number).toString();
            reads(number, want);
            reads("-" + number, want.equals("0") ? "0" : "-" + want);
            reads(" + " + number + " x ^ 7", want.equals("0") ? "0" : want.equals("1") ? "x^7" : want + "x^7");
            for (char digit : DIGITS.toCharArray()) {
                String more = number + digit;
                error(more, 2, 0);
                error("-" + more, 2, 1);
                error("x^2 + " + more + "x", 2, 6);
                error("   " + more + "  x", 2, 3);
                error(more + more, 2, 0);
            }
        }
        error("0".repeat(31), 2, 0);
        error("x-" + "0".repeat(31) + "x^2", 2, 2);
    }

    private static void exponentsUpToSeven() {
        for (int exponent = 0; exponent < 12; exponent++) {
            for (String zeros : new String[] {"", "0", "00", "0".repeat(40)}) {
                if (exponent <= 7) {
                    String want = exponent == 0 ? "1" : exponent == 1 ? "x" : "x^" + exponent;
                    reads("x^" + zeros + exponent, want);
                    reads("3x^ " + zeros + exponent + "-2x^" + exponent, want);
                } else {
                    error("x^" + zeros + exponent, 2, 2);
                    error("5 x ^  " + zeros + exponent + " ", 2, 7);
                    error("x+x^" + zeros + exponent, 2, 4);
                    error("0x^" + zeros + exponent, 2, 3);
                }
            }
        }
        // Numbers that would be small if they were counted in 8, 16, 32 or 64 bits, or by their last digits.
        for (int bits : new int[] {8, 16, 31, 32, 63, 64, 128}) {
            for (int more = -1; more < 9; more++) {
                String exponent = BigInteger.ONE.shiftLeft(bits).add(BigInteger.valueOf(more)).toString();
                error("x^" + exponent, 2, 2);
                error("x^00" + exponent + "+1", 2, 2);
            }
        }
        for (int zeros = 1; zeros < 290; zeros++) {
            error("x^1" + "0".repeat(zeros), 2, 2);
            error("x^7" + "0".repeat(zeros) + "7", 2, 2);
            reads("x^" + "0".repeat(zeros) + "7", "x^7");
        }
    }

    private static void theFirstErrorIsTold() {
        error("x^8?", 2, 2);
        error("?x^8", 1, 0);
        error("x?^8", 1, 1);
        error("x^8^", 2, 2);
        error("x^88 8", 2, 2);
        error("x^8+", 2, 2);
        error("x^8+" + "1".repeat(31), 2, 2);
        error("1".repeat(31) + "x^8", 2, 0);
        error("1".repeat(31) + "?", 2, 0);
        error("1".repeat(31) + "+", 2, 0);
        error("1".repeat(31) + " 1", 2, 0);
        error("1".repeat(30) + "?1", 1, 30);
        error("1".repeat(30) + " 1", 1, 31);
        error("1".repeat(29) + " 1x^8", 1, 30);
        error("x+?", 1, 2);
        error("x++" + "1".repeat(31), 1, 2);
        error("x^7 7" + "x^8", 1, 4);
    }

    private static void coefficientsAreAddedUp() {
        reads("x+x", "2x");
        reads("x-x", "0");
        reads("x^7-x^7+x^6", "x^6");
        reads("1-2+3-4", "-2");
        reads("x^0+1", "2");
        reads("x^1+x", "2x");
        reads("x^3+1+x^3+1-x^3-x^3-2", "0");
        reads(THIRTY + "x+x", "1" + "0".repeat(30) + "x");
        reads("-" + THIRTY + "-1", "-1" + "0".repeat(30));
    }

    private static void whatIsLeftOut() {
        reads("x", "x");
        reads("1x", "x");
        reads("x^1", "x");
        reads("1x^1", "x");
        reads("-x", "-x");
        reads("-1x^01", "-x");
        reads("5x^0", "5");
        reads("0x^7", "0");
        reads("0x^7+0", "0");
        reads("+1", "1");
        reads("-0", "0");
        reads("00012", "12");
    }

    private static void fullText() {
        String nine = ("+" + THIRTY).repeat(9);
        reads(nine + " ".repeat(300 - nine.length()), new BigInteger(THIRTY).multiply(BigInteger.valueOf(9)).toString());
        nine = ("-" + THIRTY).repeat(9);
        reads(nine + "+" + "9".repeat(20), new BigInteger(nine.substring(0, 31)).multiply(BigInteger.valueOf(9))
                .add(new BigInteger("9".repeat(20))).toString());
        reads("x+".repeat(149) + "x ", "150x");
        reads("x+".repeat(149) + " x", "150x");
        reads("-1".repeat(150), "-150");
        reads(" ".repeat(299) + "x", "x");
        reads("x" + " ".repeat(299), "x");
        reads("x^" + "0".repeat(297) + "7", "x^7");
        error("+x".repeat(149) + "+?", 1, 299);
        error(" ".repeat(299) + "?", 1, 299);
        error(" ".repeat(300), 1, 300);
        error(" ".repeat(299) + "+", 1, 300);
        error("x+".repeat(150), 1, 300);
        error("x".repeat(300), 1, 1);
        error("x^" + " ".repeat(298), 1, 300);
        error("7".repeat(300), 2, 0);
        error("x^" + "7".repeat(298), 2, 2);
        error("x^" + "0".repeat(297) + "8", 2, 2);
        error(" ".repeat(297) + "x^8", 2, 299);
        error(" ".repeat(269) + "0".repeat(31), 2, 269);
        reads(" ".repeat(270) + "0".repeat(30), "0");
    }

    private static void typingUpTo300() {
        for (int step = 1; step <= 8; step++) {
            long bytes = 0x2020202020202020L >>> 8 * (8 - step);
            PolynomialBench desk = new PolynomialBench();
            int count = 0;
            while (count + step <= 300) {
                count += step;
                DUE.same("type " + step, desk.type(bytes), count);
            }
            DUE.thrown("type more than 300", desk, Due.STATE, () -> desk.type(bytes));
            DUE.same("type nothing always fits", desk.type(0), count);
            while (count < 300) {
                count++;
                DUE.same("type the last ones", desk.type(' '), count);
            }
            DUE.thrown("type the 301st", desk, Due.STATE, () -> desk.type(' '));
            DUE.same("the text is as it was", desk.errorPlace(), 300);
            DUE.same("clearText of a full text", desk.clearText(), 300);
            DUE.same("the text is empty", desk.type(0), 0);
            DUE.same("there is room again", desk.type('x'), 1);
            DUE.same("only what was typed then counts", desk.read(0), 1);
        }
    }

    private static void bytesOfANumber() {
        long[] numbers = {0, 1, 255, 256, 0x100000000L, Long.MIN_VALUE, Long.MAX_VALUE, -1, Integer.MIN_VALUE,
            Integer.MAX_VALUE, 0x7800000000000000L, 0x0078002b00310000L};
        int[] counts = {0, 1, 1, 1, 1, 1, 8, 8, 5, 4, 1, 3};
        for (int i = 0; i < numbers.length; i++) {
            DUE.same("type " + numbers[i], new PolynomialBench().type(numbers[i]), counts[i]);
        }
        for (int shift = 0; shift < 64; shift += 8) {
            PolynomialBench desk = new PolynomialBench();
            DUE.same("type one byte", desk.type((long) 'x' << shift), 1);
            DUE.same("read it", desk.read(0), 1);
            PolynomialBench last = new PolynomialBench();
            DUE.same("type the byte 255", last.type(255L << shift), 1);
            DUE.same("it is none of a polynomial", last.errorPlace(), 0);
        }
        PolynomialBench desk = new PolynomialBench();
        desk.type(0x3700780000005e33L);
        DUE.same("the highest byte first, without zeros", desk.read(0), 3);
        DUE.text("the highest byte first, without zeros", Due.show(desk, 0), "7x^3");
        PolynomialBench eight = new PolynomialBench();
        DUE.same("eight bytes", eight.type(0x31782b32785e372dL), 8);
        DUE.same("eight bytes", eight.errorPlace(), 8);
        eight.type(0x3300000000000000L);
        eight.read(0);
        DUE.text("all eight in their order", Due.show(eight, 0), "2x^7+x-3");
    }

    private static void emptyText() {
        PolynomialBench desk = new PolynomialBench();
        DUE.same("clearText of an empty text", desk.clearText(), 0);
        DUE.same("errorKind of an empty text", desk.errorKind(), 1);
        DUE.same("errorPlace of an empty text", desk.errorPlace(), 0);
        DUE.thrown("read an empty text", desk, Due.STATE, () -> desk.read(0));
        desk.type('x');
        DUE.same("errorKind without an error", desk.errorKind(), 0);
        DUE.same("errorPlace without an error", desk.errorPlace(), PolynomialBench.NONE);
        DUE.same("clearText", desk.clearText(), 1);
        DUE.same("errorKind of a text that was emptied", desk.errorKind(), 1);
        DUE.same("errorPlace of a text that was emptied", desk.errorPlace(), 0);
    }

    private static void theTextStays() {
        PolynomialBench desk = typed("3x");
        for (int place = 0; place < 8; place++) {
            DUE.same("read once more", desk.read(place), 1);
            DUE.text("read once more", Due.show(desk, place), "3x");
        }
        Due.type(desk, "^7");
        DUE.same("read with more", desk.read(0), 7);
        Due.type(desk, "7");
        DUE.thrown("read with too much", desk, Due.STATE, () -> desk.read(0));
        DUE.same("the error does not empty it", desk.clearText(), 5);
    }

    private static void signsAndOnes() {
        long[] sizes = {1, 2, 9, 10, 11, 999_999_999, 1_000_000_000, 1_000_000_001, Long.MAX_VALUE};
        for (int exponent = 0; exponent < 8; exponent++) {
            String power = exponent == 0 ? "" : exponent == 1 ? "x" : "x^" + exponent;
            for (long size : sizes) {
                String term = size == 1 && exponent > 0 ? power : size + power;
                PolynomialBench desk = new PolynomialBench();
                desk.set(0, exponent, size);
                DUE.same("the length of " + term, desk.write(0), term.length());
                DUE.text("write", Due.page(desk), term);
                desk.set(0, exponent, -size);
                DUE.text("write", Due.show(desk, 0), "-" + term);
                if (exponent < 7) {
                    desk.set(0, 7, 1);
                    DUE.text("write", Due.show(desk, 0), "x^7-" + term);
                    desk.set(0, exponent, size);
                    DUE.text("write", Due.show(desk, 0), "x^7+" + term);
                    desk.set(0, 7, 0);
                }
                desk.set(0, exponent, 0);
                DUE.text("write", Due.show(desk, 0), "0");
            }
        }
        PolynomialBench desk = new PolynomialBench();
        desk.set(0, 7, Long.MIN_VALUE);
        DUE.text("write the least long", Due.show(desk, 0), "-9223372036854775808x^7");
    }

    private static void wholeNumbersAndFractions() {
        PolynomialBench desk = Due.desk("x", "-x", "0", "6x", "x-1000");
        String[][] values = {{"0", "5", "1"}, {"0", "1", "5"}, {"0", "-1", "5"}, {"0", "6", "4"}, {"0", "-6", "4"},
            {"0", "1000000", "1000"}, {"0", "-1000000", "1"}, {"0", "0", "1000"}, {"1", "1", "2"}, {"1", "-1", "2"},
            {"2", "1", "2"}, {"3", "1", "6"}, {"3", "1", "4"}, {"4", "1000000", "999"}, {"0", "999", "1000"}};
        String[] wants = {"5", "1/5", "-1/5", "3/2", "-3/2", "1000", "-1000000", "0", "-1/2", "1/2", "0", "1", "3/2",
            "1000/999", "999/1000"};
        for (int i = 0; i < wants.length; i++) {
            int place = Integer.parseInt(values[i][0]);
            long over = Long.parseLong(values[i][1]);
            int under = Integer.parseInt(values[i][2]);
            DUE.same("value " + wants[i], desk.value(place, over, under), wants[i].length());
            DUE.text("value", Due.page(desk), wants[i]);
        }
    }

    private static void thePage() {
        PolynomialBench desk = new PolynomialBench();
        DUE.same("an empty page", desk.pageLength(), 0);
        for (int index : new int[] {0, 1, -1, Integer.MIN_VALUE, Integer.MAX_VALUE}) {
            DUE.thrown("pageAt of an empty page", desk, Due.PLACE, () -> desk.pageAt(index));
        }
        String[] all = {"0", "-x^7", "12x^2-x+1", "5"};
        for (String polynomial : all) {
            Due.put(desk, 0, polynomial);
            DUE.same("the page of " + polynomial, desk.write(0), polynomial.length());
            DUE.same("the page of " + polynomial, desk.pageLength(), polynomial.length());
            for (int i = 0; i < polynomial.length(); i++) {
                DUE.same("its byte " + i, desk.pageAt(i), polynomial.charAt(i));
            }
            for (int index : new int[] {-1, polynomial.length(), polynomial.length() + 1, Integer.MIN_VALUE,
                Integer.MAX_VALUE}) {
                DUE.thrown("pageAt " + index, desk, Due.PLACE, () -> desk.pageAt(index));
            }
        }
    }

    /** The longest polynomial, resultant and fraction: the last byte is there, the one behind it is not. */
    private static void theLongestPages() {
        BigInteger most = BigInteger.TEN.pow(40).subtract(BigInteger.ONE);
        BigInteger[] one = new BigInteger[8];
        Arrays.fill(one, most.negate());
        BigInteger[] other = one.clone();
        other[7] = most;
        PolynomialBench desk = new PolynomialBench();
        ExtremesTest.put(desk, 0, one);
        ExtremesTest.put(desk, 1, other);
        DUE.same("write the longest one", desk.write(0), 8 * 41 + 6 * 3 + 1);
        longPage(desk, Model.write(one), "its page");
        desk.value(0, 999983, 997);
        longPage(desk, Model.valueOf(one, new Model.Ratio(999983, 997)).written(), "its value");
        desk.resultant(0, 1);
        longPage(desk, Model.resultantOf(one, other).toString(), "its resultant");
    }

    private static void longPage(PolynomialBench desk, String want, String what) {
        DUE.same("the length of " + what, desk.pageLength(), want.length());
        DUE.text(what, Due.page(desk), want);
        DUE.same(what + ", the last byte", desk.pageAt(want.length() - 1), want.charAt(want.length() - 1));
        DUE.thrown(what + ", behind the last byte", desk, Due.PLACE, () -> desk.pageAt(want.length()));
    }
}
