import java.util.NoSuchElementException;

/** A desk with eight places for polynomials with whole coefficients, a text, a page and a few points. */
public final class PolynomialBench {
    public static final int NONE = -1;

    private static final int PLACES = 8;
    private static final int TERMS = 8;
    private static final int BASE = 1_000_000_000;
    private static final int CHANGES = 8;
    private static final int POINTS = 8;
    private static final int TEXT_ROOM = 300;
    private static final int PAGE_ROOM = 1000;
    private static final int COEFFICIENT_DIGITS = 30;
    private static final int ROWS = 9;

    // A place holds 40 digits: 45 leave room. A resultant has at most 567 digits (Hadamard): 576 leave room.
    // What is left before it is divided into the next row of a chain has at most some 1550 digits: 1728.
    private static final int PLACE_ROOM = 5;
    private static final int ROW_ROOM = 64;
    private static final int WIDE_ROOM = 192;

    private static final int OVER_LIMIT = 1_000_000;
    private static final int UNDER_LIMIT = 1000;
    private static final int WHOLE_ROOT_LIMIT = 1000;
    private static final int BOX_LIMIT = 500;
    private static final int BOX_DIGITS = 8;
    private static final int MODULUS_LIMIT = 1000;
    private static final int COEFFICIENT_MODULUS_LIMIT = 2_147_483_647;
    private static final int POINT_X_LIMIT = 50;
    private static final int POINT_Y_LIMIT = 1_000_000;

    private final Poly[] places = new Poly[PLACES];
    private final History history = new History();
    private final Text text = new Text();
    private final Page page = new Page();
    private final Points points = new Points();
    private final Chain chain = new Chain();
    private final Divisors divisors = new Divisors();
    private final RootFinder finder = new RootFinder();
    private final Checks checks = new Checks();
    private final Poly result = new Poly(ROW_ROOM);
    private final Poly second = new Poly(ROW_ROOM);
    private final Whole number = new Whole(ROW_ROOM);
    private final Whole common = new Whole(ROW_ROOM);

    public PolynomialBench() {
        for (int i = 0; i < PLACES; i++) {
            places[i] = new Poly(PLACE_ROOM);
        }
    }

    public int type(long bytes) throws IllegalStateException {
        if (!text.append(bytes)) {
            throw new IllegalStateException("the text would be too long");
        }
        return text.count;
    }

    public int clearText() {
        int before = text.count;
        text.count = 0;
        return before;
    }

    public int errorKind() {
        text.parse(result);
        return text.kind;
    }

    public int errorPlace() {
        text.parse(result);
        return text.place;
    }

    public int read(int to) throws IndexOutOfBoundsException, IllegalStateException {
        checkPlace(to);
        text.parse(result);
        if (text.kind != 0) {
            throw new IllegalStateException("the text has an error");
        }
        return put(to);
    }

    public int set(int to, int exponent, long coefficient) throws IndexOutOfBoundsException, IllegalArgumentException {
        checkPlace(to);
        checkRange(exponent, 0, TERMS - 1);
        result.assign(places[to]);
        result.terms[exponent].put(coefficient);
        result.settle();
        return put(to);
    }

    public int write(int place) throws IndexOutOfBoundsException {
        checkPlace(place);
        page.count = 0;
        page.putPolynomial(places[place]);
        return page.count;
    }

    public int pageLength() {
        return page.count;
    }

    public int pageAt(int index) throws IndexOutOfBoundsException {
        if (index < 0 || index >= page.count) {
            throw new IndexOutOfBoundsException("the page has no such byte");
        }
        return page.bytes[index];
    }

    public int degree(int place) throws IndexOutOfBoundsException {
        checkPlace(place);
        return places[place].degree;
    }

    public int sign(int place, int exponent) throws IndexOutOfBoundsException {
        checkPlace(place);
        return hasTerm(exponent) ? places[place].terms[exponent].sign : 0;
    }

    public int coefficient(int place, int exponent, int modulus)
            throws IndexOutOfBoundsException, IllegalArgumentException {
        checkPlace(place);
        checkRange(modulus, 2, COEFFICIENT_MODULUS_LIMIT);
        return hasTerm(exponent) ? places[place].terms[exponent].modulo(modulus) : 0;
    }

    public int length(int place, int exponent) throws IndexOutOfBoundsException {
        checkPlace(place);
        return hasTerm(exponent) ? chain.numbers.bitsOf(places[place].terms[exponent]) : 0;
    }

    public boolean isSame(int one, int other) throws IndexOutOfBoundsException {
        checkPlace(one);
        checkPlace(other);
        return places[one].equalTo(places[other]);
    }

    public int copy(int one, int to) throws IndexOutOfBoundsException {
        checkPlace(one);
        checkPlace(to);
        result.assign(places[one]);
        return put(to);
    }

    public int add(int one, int other, int to) throws IndexOutOfBoundsException, IllegalStateException {
        checkThreePlaces(one, other, to);
        result.sum(places[one], places[other], 1);
        return putIfFits(to);
    }

    public int subtract(int one, int other, int to) throws IndexOutOfBoundsException, IllegalStateException {
        checkThreePlaces(one, other, to);
        result.sum(places[one], places[other], -1);
        return putIfFits(to);
    }

    public int multiply(int one, int other, int to) throws IndexOutOfBoundsException, IllegalStateException {
        checkThreePlaces(one, other, to);
        checkDegree(places[one].degree + places[other].degree);
        result.product(places[one], places[other], chain.numbers);
        return putIfFits(to);
    }

    public int scale(int one, long factor, int to) throws IndexOutOfBoundsException, IllegalStateException {
        checkPlace(one);
        checkPlace(to);
        result.assign(places[one]);
        number.put(factor);
        result.timesWhole(number, chain.numbers);
        return putIfFits(to);
    }

    public int power(int one, int exponent, int to)
            throws IndexOutOfBoundsException, IllegalArgumentException, IllegalStateException {
        checkPlace(one);
        checkPlace(to);
        checkRange(exponent, 0, TERMS - 1);
        checkDegree(places[one].degree * exponent);
        result.raise(places[one], exponent, second, chain.numbers);
        return putIfFits(to);
    }

    public int compose(int one, int other, int to) throws IndexOutOfBoundsException, IllegalStateException {
        checkThreePlaces(one, other, to);
        checkDegree(places[one].degree * places[other].degree);
        result.insert(places[one], places[other], second, chain.numbers);
        return putIfFits(to);
    }

    public int slope(int one, int to) throws IndexOutOfBoundsException, IllegalStateException {
        checkPlace(one);
        checkPlace(to);
        result.derive(places[one]);
        return putIfFits(to);
    }

    public int primitive(int one, int to) throws IndexOutOfBoundsException {
        checkPlace(one);
        checkPlace(to);
        result.assign(places[one]);
        result.makePrimitive(chain.numbers);
        return put(to);
    }

    public int writeContent(int place) throws IndexOutOfBoundsException {
        checkPlace(place);
        number.clear();
        chain.numbers.commonDivisor(number, places[place]);
        return writeNumber();
    }

    public int divide(int one, int by, int quotient, int rest)
            throws IndexOutOfBoundsException, IllegalArgumentException, IllegalStateException {
        checkPlace(one);
        checkThreePlaces(by, quotient, rest);
        if (quotient == rest) {
            throw new IllegalArgumentException("quotient and rest need two places");
        }
        if (places[by].degree < 0) {
            return NONE;
        }
        second.assign(places[one]);
        int power = second.reduceBy(places[by], result, chain.numbers);
        checkFits(result);
        checkFits(second);
        history.remember(quotient, places[quotient], rest, places[rest]);
        places[quotient].assign(result);
        places[rest].assign(second);
        return power;
    }

    public boolean divides(int one, int other) throws IndexOutOfBoundsException {
        checkPlace(one);
        checkPlace(other);
        second.assign(places[other]);
        return second.quotientBy(places[one], result, chain.numbers);
    }

    public int gcd(int one, int other, int to) throws IndexOutOfBoundsException, IllegalStateException {
        checkThreePlaces(one, other, to);
        divisors.greatestInto(result, places[one], places[other], chain);
        return putIfFits(to);
    }

    public int resultant(int one, int other) throws IndexOutOfBoundsException {
        checkPlace(one);
        checkPlace(other);
        chain.build(places[one], places[other]);
        chain.resultantInto(number);
        writeNumber();
        return number.sign;
    }

    public int discriminant(int place) throws IndexOutOfBoundsException {
        checkPlace(place);
        Poly poly = places[place];
        number.clear();
        if (poly.degree > 0) {
            result.derive(poly);
            chain.build(poly, result);
            chain.resultantInto(number);
            chain.numbers.divideExactly(number, poly.terms[poly.degree]);
            if (isOdd(poly.degree * (poly.degree - 1) / 2)) {
                number.sign = -number.sign;
            }
        }
        writeNumber();
        return number.sign;
    }

    public int part(int one, int times, int to)
            throws IndexOutOfBoundsException, IllegalArgumentException, IllegalStateException {
        checkPlace(one);
        checkPlace(to);
        checkRange(times, 1, TERMS - 1);
        checkNotZero(places[one]);
        divisors.start(places[one], chain);
        for (int i = 0; i < times; i++) {
            divisors.nextPart(result, chain);
        }
        return putIfFits(to);
    }

    public int signAt(int place, long over, int under) throws IndexOutOfBoundsException, IllegalArgumentException {
        checkPlace(place);
        checkFraction(over, under);
        places[place].valueAt((int) over, under, number, chain.numbers);
        return number.sign;
    }

    public int value(int place, long over, int under) throws IndexOutOfBoundsException, IllegalArgumentException {
        checkPlace(place);
        checkFraction(over, under);
        Poly poly = places[place];
        result.clear();
        poly.valueAt((int) over, under, result.terms[0], chain.numbers);
        result.settle();
        number.put(1);
        number.timesPower(under, poly.degree);
        common.assign(number);
        chain.numbers.commonDivisor(common, result);
        chain.numbers.divideExactly(number, common);
        chain.numbers.divideExactly(result.terms[0], common);
        page.count = 0;
        page.putFraction(result.terms[0], number);
        return page.count;
    }

    public int roots(int place) throws IndexOutOfBoundsException, IllegalStateException {
        checkPlace(place);
        checkNotZero(places[place]);
        finder.prepare(places[place], chain);
        return finder.total;
    }

    public int rootsUpTo(int place, long over, int under)
            throws IndexOutOfBoundsException, IllegalArgumentException, IllegalStateException {
        checkPlace(place);
        checkFraction(over, under);
        checkNotZero(places[place]);
        finder.prepare(places[place], chain);
        return finder.countUpTo((int) over, under, chain);
    }

    public int box(int place, int root, int digits)
            throws IndexOutOfBoundsException, IllegalArgumentException, IllegalStateException {
        checkPlace(place);
        if (places[place].degree < 0) {
            throw new IndexOutOfBoundsException("the polynomial 0 has no boxes");
        }
        finder.prepare(places[place], chain);
        if (root < 0 || root >= finder.total) {
            throw new IndexOutOfBoundsException("no such root");
        }
        checkRange(digits, 0, BOX_DIGITS);
        if (!finder.isNear(root, chain)) {
            throw new IllegalStateException("the root is too far from 0");
        }
        return finder.lowerEdge(root, 1 << digits, chain);
    }

    public int wholeRoots(int place) throws IndexOutOfBoundsException, IllegalStateException {
        checkPlace(place);
        checkNotZero(places[place]);
        finder.findWholeRoots(places[place], chain.numbers);
        return finder.foundCount;
    }

    public int wholeRoot(int place, int index)
            throws IndexOutOfBoundsException, IllegalStateException, NoSuchElementException {
        checkPlace(place);
        checkNotZero(places[place]);
        finder.findWholeRoots(places[place], chain.numbers);
        if (index < 0 || index >= finder.foundCount) {
            throw new NoSuchElementException("no such root");
        }
        return finder.found[index];
    }

    public int rootsModulo(int place, int modulus) throws IndexOutOfBoundsException, IllegalArgumentException {
        checkPlace(place);
        checkRange(modulus, 1, MODULUS_LIMIT);
        return finder.countModulo(places[place], modulus);
    }

    public int addPoint(int x, int y) throws IllegalArgumentException, IllegalStateException {
        checkRange(x, -POINT_X_LIMIT, POINT_X_LIMIT);
        checkRange(y, -POINT_Y_LIMIT, POINT_Y_LIMIT);
        if (!points.accept(x, y)) {
            throw new IllegalStateException("no room for this point");
        }
        return points.count;
    }

    public int clearPoints() {
        int before = points.count;
        points.count = 0;
        return before;
    }

    public long interpolate(int to) throws IndexOutOfBoundsException, IllegalStateException {
        checkPlace(to);
        points.curveInto(result, number, second, chain.numbers);
        long under = number.positiveLong();
        if (under < 0) {
            throw new IllegalStateException("the number d would be too great");
        }
        putIfFits(to);
        return under;
    }

    public int undo() {
        return history.restore(places);
    }

    public int errors(int one, int other) throws IndexOutOfBoundsException {
        checkPlace(one);
        checkPlace(other);
        Poly first = places[one];
        Poly last = places[other];
        int wrong = checks.wrongDivision(first, last, chain.numbers);
        wrong += checks.wrongDivision(last, first, chain.numbers);
        divisors.greatestInto(result, first, last, chain);
        chain.resultantInto(number);
        wrong += checks.wrongDivisor(first, last, result, chain.numbers);
        wrong += checks.wrongResultant(first, last, result, number);
        if (first.degree >= 0) {
            checks.startParts();
            divisors.start(first, chain);
            for (int times = 1; times < TERMS; times++) {
                divisors.nextPart(second, chain);
                checks.takePart(second, times, chain.numbers);
            }
            wrong += checks.wrongParts(first, chain.numbers);
            finder.prepare(first, chain);
            wrong += checks.wrongBoxes(finder, chain);
        }
        return wrong;
    }

    public double meanDegree() {
        int sum = 0;
        for (int i = 0; i < PLACES; i++) {
            sum += places[i].degree;
        }
        return (double) sum / 8.0;
    }

    public float zeroShare() {
        int count = 0;
        for (int i = 0; i < PLACES; i++) {
            if (places[i].degree < 0) {
                count++;
            }
        }
        return (float) count / 8.0f;
    }

    private int put(int to) {
        history.remember(to, places[to], NONE, places[to]);
        places[to].assign(result);
        return result.degree;
    }

    private int putIfFits(int to) {
        checkFits(result);
        return put(to);
    }

    private int writeNumber() {
        page.count = 0;
        page.putWhole(number);
        return page.count;
    }

    private static boolean hasTerm(int exponent) {
        return exponent >= 0 && exponent < TERMS;
    }

    private static boolean isOdd(int number) {
        return (number & 1) == 1;
    }

    private static void checkPlace(int place) {
        if (place < 0 || place >= PLACES) {
            throw new IndexOutOfBoundsException("no such place");
        }
    }

    private static void checkThreePlaces(int one, int other, int to) {
        checkPlace(one);
        checkPlace(other);
        checkPlace(to);
    }

    private static void checkRange(int number, int least, int greatest) {
        if (number < least || number > greatest) {
            throw new IllegalArgumentException("out of range");
        }
    }

    private static void checkFraction(long over, int under) {
        if (over < -OVER_LIMIT || over > OVER_LIMIT || under < 1 || under > UNDER_LIMIT) {
            throw new IllegalArgumentException("out of range");
        }
    }

    private static void checkDegree(int degree) {
        if (degree >= TERMS) {
            throw new IllegalStateException("the degree would be too great");
        }
    }

    private static void checkFits(Poly poly) {
        if (!poly.fits()) {
            throw new IllegalStateException("a coefficient would be too great");
        }
    }

    private static void checkNotZero(Poly poly) {
        if (poly.degree < 0) {
            throw new IllegalStateException("the polynomial is 0");
        }
    }

    /** A whole number: its sign and its size in parts to the base 10^9, the lowest one first. */
    private static final class Whole {
        private final int[] parts;
        private int size;
        private int sign;

        Whole(int room) {
            parts = new int[Math.max(room, 1)];
        }

        void clear() {
            size = 0;
            sign = 0;
        }

        void assign(Whole other) {
            size = Math.min(other.size, parts.length);
            sign = other.sign;
            System.arraycopy(other.parts, 0, parts, 0, size);
        }

        void put(long number) {
            sign = number < 0 ? -1 : number > 0 ? 1 : 0;
            size = 0;
            long left = number;
            for (int i = 0; i < parts.length && left != 0; i++) {
                // The least long has no positive counterpart: only the part is turned.
                parts[i] = (int) Math.abs(left % BASE);
                left /= BASE;
                size = i + 1;
            }
        }

        boolean isOne() {
            return sign == 1 && size == 1 && parts[0] == 1;
        }

        /** Whether it has at most 40 digits: four parts of nine, and four more. */
        boolean fits() {
            return size < PLACE_ROOM || (size == PLACE_ROOM && parts[PLACE_ROOM - 1] < 10_000);
        }

        int compareSize(Whole other) {
            if (size != other.size) {
                return size < other.size ? -1 : 1;
            }
            for (int i = size - 1; i >= 0; i--) {
                if (parts[i] != other.parts[i]) {
                    return parts[i] < other.parts[i] ? -1 : 1;
                }
            }
            return 0;
        }

        void trim(int count) {
            size = Math.min(count, parts.length);
            while (size > 0 && parts[size - 1] == 0) {
                size--;
            }
            if (size == 0) {
                sign = 0;
            }
        }

        /** Adds another number, or takes it away if factor is -1. */
        void plus(Whole other, int factor) {
            int otherSign = factor < 0 ? -other.sign : other.sign;
            if (otherSign == 0) {
                return;
            }
            if (sign == 0) {
                assign(other);
                sign = otherSign;
                return;
            }
            boolean together = sign == otherSign;
            boolean turned = !together && compareSize(other) < 0;
            int count = Math.max(size, other.size);
            int carry = 0;
            for (int i = 0; i < parts.length && (i < count || carry != 0); i++) {
                int mine = i < size ? parts[i] : 0;
                int others = i < other.size ? other.parts[i] : 0;
                int sum = carry + (turned ? -mine : mine) + (together || turned ? others : -others);
                carry = sum >= BASE ? 1 : sum < 0 ? -1 : 0;
                parts[i] = sum - carry * BASE;
                count = Math.max(count, i + 1);
            }
            if (turned) {
                sign = otherSign;
            }
            trim(count);
        }

        /** Becomes the product of two numbers, neither of which is this one. */
        void product(Whole one, Whole other) {
            int count = Math.min(one.size + other.size, parts.length);
            for (int i = 0; i < count; i++) {
                parts[i] = 0;
            }
            for (int i = 0; i < one.size && i < count; i++) {
                long factor = one.parts[i];
                long carry = 0;
                for (int j = 0; j < other.size && i + j < count; j++) {
                    long sum = factor * other.parts[j] + parts[i + j] + carry;
                    carry = sum / BASE;
                    parts[i + j] = (int) (sum - carry * BASE);
                }
                if (i + other.size < count) {
                    parts[i + other.size] = (int) carry;
                }
            }
            sign = one.sign * other.sign;
            size = sign == 0 ? 0 : count;
            if (size > 0 && parts[size - 1] == 0) {
                size--;
            }
        }

        /** Multiplies by a number whose size is at most the base. */
        void timesSmall(int factor) {
            if (factor == 0) {
                size = 0;
                sign = 0;
                return;
            }
            long times = factor < 0 ? -(long) factor : factor;
            long carry = 0;
            for (int i = 0; i < size; i++) {
                long sum = times * parts[i] + carry;
                carry = sum / BASE;
                parts[i] = (int) (sum - carry * BASE);
            }
            if (carry != 0 && size < parts.length) {
                parts[size] = (int) carry;
                size++;
            }
            if (factor < 0) {
                sign = -sign;
            }
        }

        /** Multiplies by a power of a number from 1 to 1000, several factors at once. */
        void timesPower(int base, int exponent) {
            int factor = 1;
            for (int i = 0; i < exponent; i++) {
                if ((long) factor * base > BASE) {
                    timesSmall(factor);
                    factor = 1;
                }
                factor *= base;
            }
            timesSmall(factor);
        }

        /** Divides the size by a number from 1 to the base; answers the rest. */
        int divideSmall(int by) {
            if (by < 1) {
                return 0;
            }
            long rest = 0;
            for (int i = size - 1; i >= 0; i--) {
                long sum = rest * BASE + parts[i];
                long part = sum / by;
                rest = sum - part * by;
                parts[i] = (int) part;
            }
            if (size > 0 && parts[size - 1] == 0) {
                size--;
            }
            if (size == 0) {
                sign = 0;
            }
            return (int) rest;
        }

        /** What is left, 0 or more, after a division by a modulus above 0. */
        int modulo(int modulus) {
            if (modulus < 1) {
                return 0;
            }
            long rest = 0;
            for (int i = size - 1; i >= 0; i--) {
                rest = (rest * BASE + parts[i]) % modulus;
            }
            return (int) (sign < 0 && rest > 0 ? modulus - rest : rest);
        }

        /** Puts a digit behind a number that is 0 or more. */
        void appendDigit(int digit) {
            long carry = digit;
            for (int i = 0; i < size; i++) {
                long sum = 10L * parts[i] + carry;
                carry = sum / BASE;
                parts[i] = (int) (sum - carry * BASE);
            }
            if (carry != 0 && size < parts.length) {
                parts[size] = (int) carry;
                size++;
            }
            sign = size > 0 ? 1 : 0;
        }

        /** This number, if it is above 0 and a long; otherwise NONE. */
        long positiveLong() {
            if (sign < 1 || size > 3 || (size == 3 && parts[2] > 9)) {
                return NONE;
            }
            long number = 0;
            for (int i = size - 1; i >= 0; i--) {
                number = number * BASE + parts[i];
            }
            // Three parts stay below 10^19, so that a number that is too great turns negative.
            return number < 0 ? NONE : number;
        }
    }

    /** Divisions of whole numbers, and the rows that these and the polynomials use again and again. */
    private static final class Numbers {
        private static final int EUCLID_ROUNDS = 1_000_000;
        private static final int BITS_AT_ONCE = 29;

        private final Whole quotient = new Whole(WIDE_ROOM + 2);
        private final Whole rest = new Whole(WIDE_ROOM + 2);
        private final Whole shifted = new Whole(WIDE_ROOM + 2);
        private final Whole left = new Whole(WIDE_ROOM + 2);
        private final Whole right = new Whole(WIDE_ROOM + 2);
        private final Whole front = new Whole(WIDE_ROOM + 2);

        /** Divides the size of a number by that of another one: to quotient and rest, both 0 or more. */
        void split(Whole over, Whole under) {
            quotient.clear();
            rest.assign(over);
            rest.sign = over.size > 0 ? 1 : 0;
            int count = under.size;
            int top = over.size;
            if (count == 0 || top < count || top >= rest.parts.length) {
                return;
            }
            if (count == 1) {
                quotient.assign(rest);
                rest.put(quotient.divideSmall(under.parts[0]));
                return;
            }
            // With a first part of at least half the base, a digit is guessed at most two too great.
            int factor = BASE / (under.parts[count - 1] + 1);
            rest.parts[top] = 0;
            rest.timesSmall(factor);
            shifted.assign(under);
            shifted.timesSmall(factor);
            for (int i = top - count; i >= 0; i--) {
                quotient.parts[i] = (int) splitDigit(i, count);
            }
            quotient.sign = 1;
            quotient.trim(top - count + 1);
            rest.trim(count);
            rest.divideSmall(factor);
        }

        /** One digit of a long division, which leaves the rest without the digit's multiple. */
        private long splitDigit(int at, int count) {
            int[] parts = rest.parts;
            long lead = shifted.parts[count - 1];
            if (lead < 1) {
                return 0;
            }
            long head = (long) parts[at + count] * BASE + parts[at + count - 1];
            long digit = Math.min(head / lead, BASE - 1L);
            long left = head - digit * lead;
            for (int i = 0; i < 2 && left < BASE; i++) {
                if (digit * shifted.parts[count - 2] <= left * BASE + parts[at + count - 2]) {
                    break;
                }
                digit--;
                left += lead;
            }
            long carry = 0;
            for (int i = 0; i < count; i++) {
                long sum = parts[at + i] - digit * shifted.parts[i] + carry;
                carry = Math.floorDiv(sum, (long) BASE);
                parts[at + i] = (int) (sum - carry * BASE);
            }
            if (parts[at + count] + carry < 0) {
                digit--;
                int over = 0;
                for (int i = 0; i < count; i++) {
                    int sum = parts[at + i] + shifted.parts[i] + over;
                    over = sum >= BASE ? 1 : 0;
                    parts[at + i] = sum - over * BASE;
                }
            }
            return digit;
        }

        /** Divides a number by one that divides it and is not 0. */
        void divideExactly(Whole into, Whole by) {
            int sign = into.sign * by.sign;
            split(into, by);
            into.assign(quotient);
            into.sign = into.size == 0 ? 0 : sign;
        }

        /** The greatest divisor, 0 or more, of a number and all coefficients of a polynomial. */
        void commonDivisor(Whole into, Poly of) {
            for (int i = 0; i <= of.degree; i++) {
                left.assign(into);
                right.assign(of.terms[i]);
                for (int round = 0; round < EUCLID_ROUNDS && right.size > 0; round++) {
                    split(left, right);
                    left.assign(right);
                    right.assign(rest);
                }
                into.assign(left);
                into.sign = into.size > 0 ? 1 : 0;
            }
        }

        void raise(Whole into, Whole base, int exponent) {
            into.put(1);
            for (int i = 0; i < exponent; i++) {
                left.product(into, base);
                into.assign(left);
            }
        }

        /** How many binary digits the size of a number has. */
        int bitsOf(Whole of) {
            left.assign(of);
            int bits = 0;
            for (int round = 0; round < 2 * WIDE_ROOM && left.size > 1; round++) {
                left.divideSmall(1 << BITS_AT_ONCE);
                bits += BITS_AT_ONCE;
            }
            for (int top = left.size == 0 ? 0 : left.parts[0]; top > 0; top >>= 1) {
                bits++;
            }
            return bits;
        }
    }

    /** A polynomial: its coefficients by their exponents; those above the degree are 0. */
    private static final class Poly {
        private final Whole[] terms = new Whole[TERMS];
        private int degree = -1;

        Poly(int room) {
            for (int i = 0; i < TERMS; i++) {
                terms[i] = new Whole(room);
            }
        }

        void clear() {
            for (int i = 0; i < TERMS; i++) {
                terms[i].clear();
            }
            degree = -1;
        }

        void assign(Poly other) {
            for (int i = 0; i < TERMS; i++) {
                terms[i].assign(other.terms[i]);
            }
            degree = other.degree;
        }

        void settle() {
            degree = TERMS - 1;
            while (degree >= 0 && terms[degree].size == 0) {
                degree--;
            }
        }

        int leadSign() {
            return degree < 0 ? 0 : terms[degree].sign;
        }

        boolean fits() {
            boolean all = true;
            for (int i = 0; i < TERMS; i++) {
                all = all && terms[i].fits();
            }
            return all;
        }

        boolean equalTo(Poly other) {
            boolean all = degree == other.degree;
            for (int i = 0; i < TERMS; i++) {
                all = all && terms[i].sign == other.terms[i].sign && terms[i].compareSize(other.terms[i]) == 0;
            }
            return all;
        }

        /** Becomes a sum, or a difference if factor is -1; the second one is not this one. */
        void sum(Poly one, Poly other, int factor) {
            for (int i = 0; i < TERMS; i++) {
                terms[i].assign(one.terms[i]);
                terms[i].plus(other.terms[i], factor);
            }
            settle();
        }

        /** Becomes the product of two polynomials, neither of which is this one. */
        void product(Poly one, Poly other, Numbers numbers) {
            clear();
            for (int i = 0; i <= one.degree; i++) {
                for (int j = 0; j <= other.degree && i + j < TERMS; j++) {
                    numbers.left.product(one.terms[i], other.terms[j]);
                    terms[i + j].plus(numbers.left, 1);
                }
            }
            settle();
        }

        void timesWhole(Whole factor, Numbers numbers) {
            for (int i = 0; i < TERMS; i++) {
                numbers.left.product(terms[i], factor);
                terms[i].assign(numbers.left);
            }
            settle();
        }

        void raise(Poly base, int exponent, Poly scratch, Numbers numbers) {
            clear();
            terms[0].put(1);
            degree = 0;
            for (int i = 0; i < exponent; i++) {
                scratch.product(this, base, numbers);
                assign(scratch);
            }
        }

        /** Becomes the outer polynomial with the inner one in place of x. */
        void insert(Poly outer, Poly inner, Poly scratch, Numbers numbers) {
            clear();
            for (int i = outer.degree; i >= 0; i--) {
                scratch.product(this, inner, numbers);
                assign(scratch);
                terms[0].plus(outer.terms[i], 1);
                settle();
            }
        }

        void derive(Poly of) {
            for (int i = 1; i < TERMS; i++) {
                terms[i - 1].assign(of.terms[i]);
                terms[i - 1].timesSmall(i);
            }
            terms[TERMS - 1].clear();
            settle();
        }

        void makePrimitive(Numbers numbers) {
            Whole content = numbers.front;
            content.clear();
            numbers.commonDivisor(content, this);
            content.sign = leadSign();
            for (int i = 0; i <= degree; i++) {
                numbers.divideExactly(terms[i], content);
            }
        }

        void negate() {
            for (int i = 0; i < TERMS; i++) {
                terms[i].sign = -terms[i].sign;
            }
        }

        /** Multiplies by x less a number. */
        void timesRoot(int root) {
            for (int i = TERMS - 1; i >= 0; i--) {
                terms[i].timesSmall(-root);
                if (i > 0) {
                    terms[i].plus(terms[i - 1], 1);
                }
            }
            settle();
        }

        /** Becomes the rest of section 4; answers the power k. The quotient is null if nobody wants it. */
        int reduceBy(Poly by, Poly quotient, Numbers numbers) {
            if (quotient != null) {
                quotient.clear();
            }
            int gap = degree - by.degree;
            if (by.degree < 0 || gap < 0) {
                return 0;
            }
            Whole lead = by.terms[by.degree];
            for (int step = gap; step >= 0; step--) {
                int top = step + by.degree;
                numbers.front.assign(terms[top]);
                terms[top].clear();
                for (int i = 0; i < top; i++) {
                    numbers.left.product(terms[i], lead);
                    if (i >= step) {
                        numbers.right.product(numbers.front, by.terms[i - step]);
                        numbers.left.plus(numbers.right, -1);
                    }
                    terms[i].assign(numbers.left);
                }
                if (quotient != null) {
                    quotient.timesWhole(lead, numbers);
                    quotient.terms[step].assign(numbers.front);
                    quotient.settle();
                }
            }
            settle();
            return gap + 1;
        }

        /** Divides by another polynomial, and becomes 0 if that divides it; answers whether it does. */
        boolean quotientBy(Poly by, Poly quotient, Numbers numbers) {
            quotient.clear();
            if (by.degree < 0) {
                return degree < 0;
            }
            Whole lead = by.terms[by.degree];
            for (int step = degree - by.degree; step >= 0; step--) {
                Whole front = terms[step + by.degree];
                numbers.split(front, lead);
                if (numbers.rest.size > 0) {
                    return false;
                }
                Whole factor = quotient.terms[step];
                factor.assign(numbers.quotient);
                factor.sign = factor.size == 0 ? 0 : front.sign * lead.sign;
                for (int i = 0; i <= by.degree; i++) {
                    numbers.left.product(factor, by.terms[i]);
                    terms[step + i].plus(numbers.left, -1);
                }
            }
            settle();
            quotient.settle();
            return degree < 0;
        }

        /** The value at a fraction, times the power of what is below the line by the degree. */
        void valueAt(int over, int under, Whole into, Numbers numbers) {
            into.clear();
            for (int i = degree; i >= 0; i--) {
                into.timesSmall(over);
                numbers.front.assign(terms[i]);
                numbers.front.timesPower(under, degree - i);
                into.plus(numbers.front, 1);
            }
        }
    }

    /**
     * The rests of two polynomials, each with the sign that Sturm's theorem wants, and divided so far
     * that its coefficients are determinants (the subresultants): they never get longer than those.
     */
    private static final class Chain {
        private final Numbers numbers = new Numbers();
        private final Poly[] rows = new Poly[ROWS];
        private final Poly wide = new Poly(WIDE_ROOM);
        private final Whole lead = new Whole(ROW_ROOM);
        private final Whole height = new Whole(ROW_ROOM);
        private final Whole divisor = new Whole(WIDE_ROOM);
        private final Whole power = new Whole(WIDE_ROOM);
        private int count;
        private boolean swapped;

        Chain() {
            for (int i = 0; i < ROWS; i++) {
                rows[i] = new Poly(ROW_ROOM);
            }
        }

        Poly last() {
            return rows[count < 1 ? 0 : count - 1];
        }

        void build(Poly one, Poly other) {
            swapped = one.degree < other.degree;
            rows[0].assign(swapped ? other : one);
            rows[1].assign(swapped ? one : other);
            count = rows[1].degree < 0 ? 1 : 2;
            lead.put(1);
            height.put(1);
            for (int i = 1; i + 1 < ROWS && i + 1 == count && rows[i].degree > 0; i++) {
                Poly by = rows[i];
                Poly next = rows[i + 1];
                int gap = rows[i - 1].degree - by.degree;
                wide.assign(rows[i - 1]);
                wide.reduceBy(by, null, numbers);
                numbers.raise(power, height, gap);
                divisor.product(power, lead);
                // The rest was multiplied by the lead gap + 1 times; Sturm wants its opposite.
                divisor.sign = by.leadSign() < 0 && isOdd(gap + 1) ? 1 : -1;
                next.clear();
                for (int j = 0; j <= wide.degree; j++) {
                    numbers.divideExactly(wide.terms[j], divisor);
                    next.terms[j].assign(wide.terms[j]);
                }
                next.settle();
                if (next.degree >= 0) {
                    count++;
                }
                lead.assign(by.terms[by.degree]);
                lead.sign = 1;
                if (gap > 0) {
                    numbers.raise(power, lead, gap);
                    numbers.raise(divisor, height, gap - 1);
                    numbers.divideExactly(power, divisor);
                    height.assign(power);
                }
            }
        }

        void resultantInto(Whole into) {
            into.clear();
            if (count < 2 || last().degree > 0) {
                return;
            }
            int exponent = rows[count - 2].degree;
            numbers.raise(power, last().terms[0], exponent);
            if (exponent > 1) {
                numbers.raise(divisor, height, exponent - 1);
                numbers.divideExactly(power, divisor);
            }
            into.assign(power);
            into.sign = resultantSign();
        }

        private int resultantSign() {
            int turns = swapped ? rows[0].degree * rows[1].degree : 0;
            for (int i = 0; i + 2 < count; i++) {
                int upper = rows[i].degree;
                int middle = rows[i + 1].degree;
                turns += upper * middle + middle;
                if (rows[i + 1].leadSign() < 0) {
                    turns += upper - rows[i + 2].degree;
                }
            }
            if (last().leadSign() < 0) {
                turns += rows[count - 2].degree;
            }
            return isOdd(turns) ? -1 : 1;
        }
    }

    /** Greatest divisors, and the parts of a polynomial, those that occur least first. */
    private static final class Divisors {
        private final Poly single = new Poly(ROW_ROOM);
        private final Poly repeated = new Poly(ROW_ROOM);
        private final Poly shared = new Poly(ROW_ROOM);
        private final Poly work = new Poly(ROW_ROOM);

        void greatestInto(Poly into, Poly one, Poly other, Chain chain) {
            chain.build(one, other);
            into.assign(chain.last());
            into.makePrimitive(chain.numbers);
        }

        /** Parts a polynomial that is not 0 into its factors, once each, and those that are left. */
        void start(Poly of, Chain chain) {
            shared.derive(of);
            greatestInto(repeated, of, shared, chain);
            work.assign(of);
            work.makePrimitive(chain.numbers);
            work.quotientBy(repeated, single, chain.numbers);
        }

        /** The part that occurs once more than the one before. */
        void nextPart(Poly into, Chain chain) {
            greatestInto(shared, single, repeated, chain);
            work.assign(single);
            work.quotientBy(shared, into, chain.numbers);
            single.assign(shared);
            work.assign(repeated);
            work.quotientBy(shared, repeated, chain.numbers);
        }
    }

    /** Real roots by Sturm's theorem, whole roots, and roots by a modulus. */
    private static final class RootFinder {
        private static final int FILTER = 999_999_937;
        private static final int BOX_ROUNDS = 100;

        private final Poly slopeRow = new Poly(ROW_ROOM);
        private final Poly work = new Poly(ROW_ROOM);
        private final Poly simple = new Poly(ROW_ROOM);
        private final Whole height = new Whole(ROW_ROOM);
        private final long[] residues = new long[TERMS];
        private final int[] found = new int[TERMS];
        private int foundCount;
        private int changesBelow;
        private int total;

        /** Builds the chain of a polynomial that is not 0; without factors that occur twice. */
        void prepare(Poly of, Chain chain) {
            slopeRow.derive(of);
            chain.build(of, slopeRow);
            if (chain.last().degree > 0) {
                slopeRow.assign(chain.last());
                slopeRow.makePrimitive(chain.numbers);
                work.assign(of);
                work.quotientBy(slopeRow, simple, chain.numbers);
                slopeRow.derive(simple);
                chain.build(simple, slopeRow);
            }
            changesBelow = changesFarOut(chain, true);
            total = changesBelow - changesFarOut(chain, false);
        }

        private int changesFarOut(Chain chain, boolean below) {
            int changes = 0;
            int before = 0;
            for (int i = 0; i < chain.count; i++) {
                int sign = chain.rows[i].leadSign();
                if (below && isOdd(chain.rows[i].degree)) {
                    sign = -sign;
                }
                if (sign * before < 0) {
                    changes++;
                }
                before = sign == 0 ? before : sign;
            }
            return changes;
        }

        /** How many roots are at most a fraction. */
        int countUpTo(int over, int under, Chain chain) {
            int changes = 0;
            int before = 0;
            for (int i = 0; i < chain.count; i++) {
                chain.rows[i].valueAt(over, under, height, chain.numbers);
                if (height.sign * before < 0) {
                    changes++;
                }
                before = height.sign == 0 ? before : height.sign;
            }
            return changesBelow - changes;
        }

        boolean isNear(int root, Chain chain) {
            return countUpTo(-BOX_LIMIT, 1, chain) <= root && countUpTo(BOX_LIMIT, 1, chain) > root;
        }

        /** For a near root: the greatest number below it, of those that are whole if times scale, times scale. */
        int lowerEdge(int root, int scale, Chain chain) {
            int low = -BOX_LIMIT * scale;
            int high = BOX_LIMIT * scale;
            for (int round = 0; round < BOX_ROUNDS && high - low > 1; round++) {
                int middle = low + (high - low) / 2;
                if (countUpTo(middle, scale, chain) > root) {
                    high = middle;
                } else {
                    low = middle;
                }
            }
            return low;
        }

        void findWholeRoots(Poly of, Numbers numbers) {
            foundCount = 0;
            takeResidues(of, FILTER);
            for (int x = -WHOLE_ROOT_LIMIT; x <= WHOLE_ROOT_LIMIT; x++) {
                if (isRootModulo(x, FILTER)) {
                    of.valueAt(x, 1, height, numbers);
                    if (height.sign == 0 && foundCount < TERMS) {
                        found[foundCount] = x;
                        foundCount++;
                    }
                }
            }
        }

        int countModulo(Poly of, int modulus) {
            takeResidues(of, modulus);
            int count = 0;
            for (int x = 0; x < modulus; x++) {
                if (isRootModulo(x, modulus)) {
                    count++;
                }
            }
            return count;
        }

        private void takeResidues(Poly of, int modulus) {
            for (int i = 0; i < TERMS; i++) {
                residues[i] = of.terms[i].modulo(modulus);
            }
        }

        private boolean isRootModulo(int x, int modulus) {
            if (modulus < 1) {
                return false;
            }
            long sum = 0;
            for (int i = TERMS - 1; i >= 0; i--) {
                sum = (sum * x + residues[i]) % modulus;
            }
            return sum == 0;
        }
    }

    /** Points, and the polynomial through them. */
    private static final class Points {
        private final int[] xs = new int[POINTS];
        private final int[] ys = new int[POINTS];
        private final Whole common = new Whole(ROW_ROOM);
        private int count;

        /** Answers false, and does nothing, if there is no room or a point with this x. */
        boolean accept(int x, int y) {
            boolean free = count < POINTS;
            for (int i = 0; i < count; i++) {
                free = free && xs[i] != x;
            }
            if (free) {
                xs[count] = x;
                ys[count] = y;
                count++;
            }
            return free;
        }

        /** The polynomial through the points is into divided by under, in lowest terms. */
        void curveInto(Poly into, Whole under, Poly basis, Numbers numbers) {
            into.clear();
            for (int i = 0; i < count; i++) {
                basisInto(basis, i);
                basis.sum(basis, into, 1);
                into.assign(basis);
            }
            under.put(1);
            timesDistances(under, NONE);
            common.assign(under);
            numbers.commonDivisor(common, into);
            numbers.divideExactly(under, common);
            for (int i = 0; i < TERMS; i++) {
                numbers.divideExactly(into.terms[i], common);
            }
        }

        /** Multiplies by the distances of all pairs of points but those of one. */
        private void timesDistances(Whole into, int without) {
            for (int i = 0; i < count; i++) {
                for (int j = 0; j < i; j++) {
                    if (i != without && j != without) {
                        into.timesSmall(Math.abs(xs[i] - xs[j]));
                    }
                }
            }
        }

        /** Lagrange's polynomial of one point, times its y and the distances of all pairs. */
        private void basisInto(Poly basis, int at) {
            basis.clear();
            basis.terms[0].put(ys[at]);
            timesDistances(basis.terms[0], at);
            for (int i = 0; i < count; i++) {
                if (i != at) {
                    basis.timesRoot(xs[i]);
                }
                // Distances have no sign, the difference to a greater x has one.
                if (xs[i] > xs[at]) {
                    basis.negate();
                }
            }
        }
    }

    /** What stood at the places before the latest changes: one place or two for each. */
    private static final class History {
        private final Poly[] old = new Poly[2 * CHANGES];
        private final int[] where = new int[2 * CHANGES];
        private int first;
        private int count;

        History() {
            for (int i = 0; i < 2 * CHANGES; i++) {
                old[i] = new Poly(PLACE_ROOM);
            }
        }

        /** The other place is NONE if there is but one. */
        void remember(int one, Poly onePoly, int other, Poly otherPoly) {
            if (count == CHANGES) {
                first = (first + 1) % CHANGES;
                count--;
            }
            int at = 2 * ((first + count) % CHANGES);
            where[at] = one;
            where[at + 1] = other;
            old[at].assign(onePoly);
            old[at + 1].assign(otherPoly);
            count++;
        }

        /** Puts back what the latest change replaced; answers how many are left, NONE if there was none. */
        int restore(Poly[] places) {
            if (count == 0) {
                return NONE;
            }
            count--;
            int at = 2 * ((first + count) % CHANGES);
            for (int i = at; i < at + 2; i++) {
                if (where[i] >= 0 && where[i] < places.length) {
                    places[where[i]].assign(old[i]);
                }
            }
            return count;
        }
    }

    /** The text, and how it is read as a polynomial. */
    private static final class Text {
        private static final int BAD_BYTE = 1;
        private static final int TOO_GREAT = 2;

        private final int[] bytes = new int[TEXT_ROOM];
        private final Whole number = new Whole(PLACE_ROOM);
        private int count;
        private int at;
        private int kind;
        private int place;

        /** Puts the bytes of a number behind the text; answers false, and does nothing, without room. */
        boolean append(long number) {
            int more = 0;
            for (int shift = 56; shift >= 0; shift -= 8) {
                if ((number >>> shift & 255) != 0) {
                    more++;
                }
            }
            if (count + more > TEXT_ROOM) {
                return false;
            }
            for (int shift = 56; shift >= 0; shift -= 8) {
                int next = (int) (number >>> shift & 255);
                if (next != 0 && count < TEXT_ROOM) {
                    bytes[count] = next;
                    count++;
                }
            }
            return true;
        }

        /** Reads the whole text, or up to its first error: its kind and place stand in the fields. */
        void parse(Poly into) {
            into.clear();
            kind = 0;
            place = NONE;
            at = 0;
            skipBlanks();
            boolean negative = next() == '-';
            if (next() == '-' || next() == '+') {
                at++;
            }
            parseTerm(into, negative);
            for (int i = 0; i < TEXT_ROOM && kind == 0 && at < count; i++) {
                negative = next() == '-';
                if (next() == '-' || next() == '+') {
                    at++;
                    parseTerm(into, negative);
                } else {
                    fail(BAD_BYTE, at);
                }
            }
            into.settle();
        }

        private void parseTerm(Poly into, boolean negative) {
            skipBlanks();
            int exponent = 0;
            if (isDigit(next())) {
                parseCoefficient();
                skipBlanks();
            } else {
                number.put(1);
                if (next() != 'x') {
                    fail(BAD_BYTE, at);
                }
            }
            if (kind == 0 && next() == 'x') {
                at++;
                exponent = parseExponent();
            }
            if (kind == 0 && exponent < TERMS) {
                into.terms[exponent].plus(number, negative ? -1 : 1);
            }
        }

        private void parseCoefficient() {
            int start = at;
            number.clear();
            for (; at < count && at - start < COEFFICIENT_DIGITS && isDigit(next()); at++) {
                number.appendDigit(next() - '0');
            }
            if (isDigit(next())) {
                fail(TOO_GREAT, start);
            }
        }

        /** Reads what stands behind an x: 1 if there is no exponent. */
        private int parseExponent() {
            skipBlanks();
            if (next() != '^') {
                return 1;
            }
            at++;
            skipBlanks();
            int start = at;
            int exponent = 0;
            for (; at < count && isDigit(next()); at++) {
                exponent = Math.min(10 * exponent + next() - '0', TERMS);
            }
            if (at == start) {
                fail(BAD_BYTE, at);
            } else if (exponent >= TERMS) {
                fail(TOO_GREAT, start);
            }
            skipBlanks();
            return exponent;
        }

        private void skipBlanks() {
            while (at < count && next() == ' ') {
                at++;
            }
        }

        /** The byte where the reader stands; 0, which no text has, behind the last one. */
        private int next() {
            return at >= 0 && at < count ? bytes[at] : 0;
        }

        private static boolean isDigit(int letter) {
            return letter >= '0' && letter <= '9';
        }

        /** Only the first error counts. */
        private void fail(int kindThen, int placeThen) {
            if (kind == 0) {
                kind = kindThen;
                place = placeThen;
            }
        }
    }

    /** The page: what was written last. */
    private static final class Page {
        private final int[] bytes = new int[PAGE_ROOM];
        private int count;

        private void putByte(int letter) {
            if (count < PAGE_ROOM) {
                bytes[count] = letter;
                count++;
            }
        }

        void putWhole(Whole number) {
            if (number.sign < 0) {
                putByte('-');
            }
            putSize(number);
        }

        private void putSize(Whole number) {
            if (number.size == 0) {
                putByte('0');
            }
            boolean started = false;
            for (int i = number.size - 1; i >= 0; i--) {
                int part = number.parts[i];
                for (int unit = BASE / 10; unit > 0; unit /= 10) {
                    int digit = part / unit % 10;
                    started = started || digit > 0;
                    if (started) {
                        putByte('0' + digit);
                    }
                }
            }
        }

        void putFraction(Whole over, Whole under) {
            putWhole(over);
            if (!under.isOne()) {
                putByte('/');
                putSize(under);
            }
        }

        void putPolynomial(Poly poly) {
            for (int i = poly.degree; i >= 0; i--) {
                Whole term = poly.terms[i];
                if (term.sign < 0) {
                    putByte('-');
                } else if (term.sign > 0 && i < poly.degree) {
                    putByte('+');
                }
                if (term.sign != 0) {
                    putTerm(term, i);
                }
            }
            if (poly.degree < 0) {
                putByte('0');
            }
        }

        private void putTerm(Whole term, int exponent) {
            if (exponent == 0 || term.size > 1 || term.parts[0] != 1) {
                putSize(term);
            }
            if (exponent > 0) {
                putByte('x');
            }
            if (exponent > 1) {
                putByte('^');
                putByte('0' + exponent);
            }
        }
    }

    /** Whether what was found agrees with what the theorem says: each check answers how often it does not. */
    private static final class Checks {
        private final Poly rest = new Poly(ROW_ROOM);
        private final Poly quotient = new Poly(ROW_ROOM);
        private final Poly left = new Poly(ROW_ROOM);
        private final Poly right = new Poly(ROW_ROOM);

        /** Dividend times power of the lead is quotient times divisor plus rest. */
        int wrongDivision(Poly one, Poly by, Numbers numbers) {
            if (by.degree < 0) {
                return 0;
            }
            rest.assign(one);
            int power = rest.reduceBy(by, quotient, numbers);
            right.product(quotient, by, numbers);
            left.sum(right, rest, 1);
            right.assign(one);
            for (int i = 0; i < power; i++) {
                right.timesWhole(by.terms[by.degree], numbers);
            }
            boolean powerIsDue = power == Math.max(one.degree - by.degree + 1, 0);
            return powerIsDue && rest.degree < by.degree && left.equalTo(right) ? 0 : 1;
        }

        /** The greatest divisor divides both. */
        int wrongDivisor(Poly one, Poly other, Poly divisor, Numbers numbers) {
            left.assign(one);
            right.assign(other);
            boolean both = left.quotientBy(divisor, quotient, numbers) && right.quotientBy(divisor, quotient, numbers);
            return both ? 0 : 1;
        }

        /** The resultant is 0 if one of both is 0 or they have a divisor with an x, and only then. */
        int wrongResultant(Poly one, Poly other, Poly divisor, Whole resultantThen) {
            boolean vanishes = one.degree < 0 || other.degree < 0 || divisor.degree > 0;
            return vanishes == (resultantThen.sign == 0) ? 0 : 1;
        }

        void startParts() {
            left.clear();
            left.terms[0].put(1);
            left.settle();
        }

        void takePart(Poly part, int times, Numbers numbers) {
            for (int i = 0; i < times; i++) {
                quotient.product(left, part, numbers);
                left.assign(quotient);
            }
        }

        /** The primitive part is the product of the parts that were taken, each as often as it occurs. */
        int wrongParts(Poly of, Numbers numbers) {
            right.assign(of);
            right.makePrimitive(numbers);
            return left.equalTo(right) ? 0 : 1;
        }

        /** Each root lies in its wide box and in its narrow one, and this in that. */
        int wrongBoxes(RootFinder finder, Chain chain) {
            int wrong = 0;
            int scale = 1 << BOX_DIGITS;
            for (int root = 0; root < finder.total; root++) {
                if (finder.isNear(root, chain)) {
                    int wide = finder.lowerEdge(root, 1, chain);
                    int narrow = finder.lowerEdge(root, scale, chain);
                    boolean inside = finder.countUpTo(narrow, scale, chain) <= root
                            && finder.countUpTo(narrow + 1, scale, chain) > root;
                    if (!inside || Math.floorDiv(narrow, scale) != wide) {
                        wrong++;
                    }
                }
            }
            return wrong;
        }
    }
}
