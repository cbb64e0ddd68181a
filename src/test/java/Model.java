import java.math.BigInteger;
import java.util.ArrayList;
import java.util.List;
import java.util.NoSuchElementException;

/**
 * The document once more, over the library's whole numbers and by other ways than the program's: determinants
 * for resultants, fractions for divisors, remainders and points, derivatives for parts.
 */
final class Model {
    private static final BigInteger ZERO = BigInteger.ZERO;
    private static final BigInteger ONE = BigInteger.ONE;
    private static final char END = 256;
    private static final BigInteger LIMIT = BigInteger.TEN.pow(40);

    private final BigInteger[][] places = new BigInteger[8][];
    private final List<BigInteger[][]> states = new ArrayList<>();
    private final StringBuilder text = new StringBuilder();
    private String page = "";
    private final List<int[]> points = new ArrayList<>();

    Model() {
        for (int i = 0; i < 8; i++) {
            places[i] = new BigInteger[0];
        }
    }

    // Polynomials are rows of coefficients, the exponent 0 first, without zeros behind.

    static BigInteger[] trimmed(BigInteger[] p) {
        int n = p.length;
        while (n > 0 && p[n - 1].signum() == 0) {
            n--;
        }
        BigInteger[] q = new BigInteger[n];
        System.arraycopy(p, 0, q, 0, n);
        return q;
    }

    static BigInteger[] product(BigInteger[] a, BigInteger[] b) {
        BigInteger[] c = zeros(Math.max(a.length + b.length - 1, 0));
        for (int i = 0; i < a.length; i++) {
            for (int j = 0; j < b.length; j++) {
                c[i + j] = c[i + j].add(a[i].multiply(b[j]));
            }
        }
        return trimmed(c);
    }

    static BigInteger[] sum(BigInteger[] a, BigInteger[] b, int factor) {
        BigInteger[] c = zeros(Math.max(a.length, b.length));
        for (int i = 0; i < c.length; i++) {
            c[i] = at(a, i).add(at(b, i).multiply(BigInteger.valueOf(factor)));
        }
        return trimmed(c);
    }

    static BigInteger[] zeros(int n) {
        BigInteger[] c = new BigInteger[n];
        java.util.Arrays.fill(c, ZERO);
        return c;
    }

    static BigInteger at(BigInteger[] p, int i) {
        return i >= 0 && i < p.length ? p[i] : ZERO;
    }

    static BigInteger content(BigInteger[] p) {
        BigInteger g = ZERO;
        for (BigInteger c : p) {
            g = g.gcd(c);
        }
        return g;
    }

    static BigInteger[] primitivePart(BigInteger[] p) {
        if (p.length == 0) {
            return p;
        }
        BigInteger g = content(p);
        if (p[p.length - 1].signum() < 0) {
            g = g.negate();
        }
        BigInteger[] q = p.clone();
        for (int i = 0; i < q.length; i++) {
            q[i] = q[i].divide(g);
        }
        return q;
    }

    static BigInteger[] derivative(BigInteger[] p) {
        BigInteger[] d = zeros(Math.max(p.length - 1, 0));
        for (int i = 0; i < d.length; i++) {
            d[i] = p[i + 1].multiply(BigInteger.valueOf(i + 1));
        }
        return d;
    }

    static Ratio[] ratios(BigInteger[] p) {
        Ratio[] r = new Ratio[p.length];
        for (int i = 0; i < p.length; i++) {
            r[i] = new Ratio(p[i], ONE);
        }
        return r;
    }

    static Ratio[] remainder(Ratio[] a, Ratio[] b) {
        List<Ratio> r = new ArrayList<>(List.of(a));
        while (r.size() >= b.length) {
            Ratio f = r.get(r.size() - 1).over(b[b.length - 1]);
            int shift = r.size() - b.length;
            for (int i = 0; i < b.length; i++) {
                r.set(i + shift, r.get(i + shift).minus(f.times(b[i])));
            }
            r.remove(r.size() - 1);
        }
        while (!r.isEmpty() && r.get(r.size() - 1).signum() == 0) {
            r.remove(r.size() - 1);
        }
        return r.toArray(new Ratio[0]);
    }

    /** The primitive polynomial with the same roots. */
    static BigInteger[] cleared(Ratio[] p) {
        BigInteger d = ONE;
        for (Ratio c : p) {
            d = d.multiply(c.under).divide(d.gcd(c.under));
        }
        BigInteger[] q = new BigInteger[p.length];
        for (int i = 0; i < p.length; i++) {
            q[i] = p[i].over.multiply(d.divide(p[i].under));
        }
        return primitivePart(q);
    }

    static BigInteger[] greatest(BigInteger[] a, BigInteger[] b) {
        Ratio[] x = ratios(primitivePart(a));
        Ratio[] y = ratios(primitivePart(b));
        while (y.length > 0) {
            Ratio[] z = remainder(x, y);
            x = y;
            y = ratios(cleared(z));
        }
        return cleared(x);
    }

    /** a / b, if it has whole coefficients; otherwise null. */
    static BigInteger[] quotient(BigInteger[] a, BigInteger[] b) {
        if (b.length == 0) {
            return a.length == 0 ? a : null;
        }
        BigInteger[] r = a.clone();
        BigInteger[] q = zeros(Math.max(a.length - b.length + 1, 0));
        for (int s = q.length - 1; s >= 0; s--) {
            BigInteger[] d = r[s + b.length - 1].divideAndRemainder(b[b.length - 1]);
            if (d[1].signum() != 0) {
                return null;
            }
            q[s] = d[0];
            for (int i = 0; i < b.length; i++) {
                r[s + i] = r[s + i].subtract(d[0].multiply(b[i]));
            }
        }
        return trimmed(r).length == 0 ? trimmed(q) : null;
    }

    static BigInteger resultantOf(BigInteger[] a, BigInteger[] b) {
        if (a.length == 0 || b.length == 0) {
            return ZERO;
        }
        int m = a.length - 1;
        int n = b.length - 1;
        BigInteger[][] rows = new BigInteger[m + n][m + n];
        for (int i = 0; i < m + n; i++) {
            for (int j = 0; j < m + n; j++) {
                rows[i][j] = i < n ? at(a, m - (j - i)) : at(b, n - (j - (i - n)));
            }
        }
        return determinant(rows);
    }

    /** Bareiss: each element stays a determinant of whole numbers. */
    static BigInteger determinant(BigInteger[][] rows) {
        BigInteger before = ONE;
        int sign = 1;
        for (int c = 0; c < rows.length; c++) {
            int pivot = c;
            while (pivot < rows.length && rows[pivot][c].signum() == 0) {
                pivot++;
            }
            if (pivot == rows.length) {
                return ZERO;
            }
            if (pivot != c) {
                BigInteger[] t = rows[pivot];
                rows[pivot] = rows[c];
                rows[c] = t;
                sign = -sign;
            }
            for (int i = c + 1; i < rows.length; i++) {
                for (int j = c + 1; j < rows.length; j++) {
                    BigInteger across = rows[i][j].multiply(rows[c][c]).subtract(rows[i][c].multiply(rows[c][j]));
                    rows[i][j] = across.divide(before);
                }
            }
            before = rows[c][c];
        }
        return sign < 0 ? before.negate() : before;
    }

    /** S(k) is the product of all irreducible factors that occur k times or more. */
    static BigInteger[] partOf(BigInteger[] p, int times) {
        BigInteger[][] common = new BigInteger[10][];
        common[0] = primitivePart(p);
        BigInteger[] d = p;
        for (int k = 1; k < 10; k++) {
            d = derivative(d);
            common[k] = greatest(common[k - 1], d);
        }
        BigInteger[] atLeast = quotient(common[times - 1], common[times]);
        BigInteger[] more = quotient(common[times], common[times + 1]);
        return quotient(atLeast, more);
    }

    static Ratio valueOf(BigInteger[] p, Ratio x) {
        Ratio v = new Ratio(ZERO, ONE);
        for (int i = p.length - 1; i >= 0; i--) {
            v = v.times(x).plus(new Ratio(p[i], ONE));
        }
        return v;
    }

    /** The different real roots in (-infinity, x], or all if x is null. */
    static int countRoots(BigInteger[] p, Ratio x) {
        BigInteger[] simple = quotient(primitivePart(p), greatest(p, derivative(p)));
        List<Ratio[]> chain = new ArrayList<>();
        chain.add(ratios(simple));
        Ratio[] next = ratios(derivative(simple));
        while (next.length > 0) {
            chain.add(next);
            Ratio[] rest = remainder(chain.get(chain.size() - 2), next);
            next = new Ratio[rest.length];
            for (int i = 0; i < rest.length; i++) {
                next[i] = new Ratio(rest[i].over.negate(), rest[i].under);
            }
        }
        return changes(chain, new Ratio(LIMIT.pow(3).negate(), ONE))
                - changes(chain, x == null ? new Ratio(LIMIT.pow(3), ONE) : x);
    }

    private static int changes(List<Ratio[]> chain, Ratio x) {
        int changes = 0;
        int before = 0;
        for (Ratio[] row : chain) {
            Ratio v = new Ratio(ZERO, ONE);
            for (int i = row.length - 1; i >= 0; i--) {
                v = v.times(x).plus(row[i]);
            }
            if (v.signum() * before < 0) {
                changes++;
            }
            before = v.signum() == 0 ? before : v.signum();
        }
        return changes;
    }

    static String write(BigInteger[] p) {
        String all = "";
        for (int i = 0; i < p.length; i++) {
            if (p[i].signum() != 0) {
                String size = p[i].abs().equals(ONE) && i > 0 ? "" : p[i].abs().toString();
                String power = i == 0 ? "" : i == 1 ? "x" : "x^" + i;
                all = (p[i].signum() < 0 ? "-" : "+") + size + power + all;
            }
        }
        return all.isEmpty() ? "0" : all.startsWith("+") ? all.substring(1) : all;
    }

    // The parser: a table over states; each letter is looked at once.

    private int errorKind;
    private int errorPlace;
    private BigInteger[] parsed;

    private void parse() {
        errorKind = 0;
        errorPlace = -1;
        BigInteger[] sum = zeros(8);
        String state = "start";
        int sign = 1;
        int begin = 0;
        String number = "";
        String exponent = "";
        boolean hasX = false;
        for (int i = 0; i <= text.length(); i++) {
            char c = i < text.length() ? text.charAt(i) : END;
            boolean digit = c >= '0' && c <= '9';
            if (c == ' ') {
                state = state.equals("number") ? "numbered" : state.equals("exponent") ? "done" : state;
                continue;
            }
            boolean opens = state.equals("start") || state.equals("term");
            boolean closes = state.equals("number") || state.equals("numbered") || state.equals("x")
                    || state.equals("exponent") || state.equals("done");
            if (digit && opens) {
                state = "number";
                begin = i;
                number = "" + c;
            } else if (digit && state.equals("number")) {
                number += c;
            } else if (digit && (state.equals("power") || state.equals("exponent"))) {
                begin = state.equals("power") ? i : begin;
                exponent += c;
                state = "exponent";
            } else if (c == 'x' && (opens || state.equals("number") || state.equals("numbered"))) {
                state = "x";
                hasX = true;
            } else if (c == '^' && state.equals("x")) {
                state = "power";
            } else if ((c == '+' || c == '-') && state.equals("start")) {
                sign = c == '-' ? -1 : 1;
                state = "term";
            } else if ((c == '+' || c == '-' || c == END) && closes) {
                int e = exponent.isEmpty() ? hasX ? 1 : 0 : Integer.parseInt(exponent);
                BigInteger n = number.isEmpty() ? ONE : new BigInteger(number);
                sum[e] = sum[e].add(sign < 0 ? n.negate() : n);
                sign = c == '-' ? -1 : 1;
                number = "";
                exponent = "";
                hasX = false;
                state = "term";
            } else {
                error(1, i);
                return;
            }
            if (number.length() > 30 || (!exponent.isEmpty() && new BigInteger(exponent).intValue() > 7)) {
                error(2, begin);
                return;
            }
        }
        parsed = trimmed(sum);
    }

    private void error(int kind, int place) {
        errorKind = kind;
        errorPlace = place;
    }

    // The face.

    private static void place(int... all) {
        for (int p : all) {
            if (p < 0 || p > 7) {
                throw new IndexOutOfBoundsException();
            }
        }
    }

    private static void range(long n, long least, long greatest) {
        if (n < least || n > greatest) {
            throw new IllegalArgumentException();
        }
    }

    private static void fraction(long over, int under) {
        range(over, -1000000, 1000000);
        range(under, 1, 1000);
    }

    private static void fits(BigInteger[] p) {
        if (p.length > 8) {
            throw new IllegalStateException();
        }
        for (BigInteger c : p) {
            if (c.abs().compareTo(LIMIT) >= 0) {
                throw new IllegalStateException();
            }
        }
    }

    private void notZero(int place) {
        if (places[place].length == 0) {
            throw new IllegalStateException();
        }
    }

    private void change() {
        states.add(places.clone());
        if (states.size() > 8) {
            states.remove(0);
        }
    }

    private int put(int to, BigInteger[] p) {
        fits(p);
        change();
        places[to] = p;
        return p.length - 1;
    }

    int type(long bytes) {
        String more = "";
        for (long b = bytes; b != 0; b >>>= 8) {
            if ((b & 255) != 0) {
                more = (char) (b & 255) + more;
            }
        }
        if (text.length() + more.length() > 300) {
            throw new IllegalStateException();
        }
        text.append(more);
        return text.length();
    }

    int clearText() {
        int n = text.length();
        text.setLength(0);
        return n;
    }

    int errorKind() {
        parse();
        return errorKind;
    }

    int errorPlace() {
        parse();
        return errorPlace;
    }

    int read(int to) {
        place(to);
        parse();
        if (errorKind != 0) {
            throw new IllegalStateException();
        }
        return put(to, parsed);
    }

    int set(int to, int exponent, long coefficient) {
        place(to);
        range(exponent, 0, 7);
        BigInteger[] p = zeros(8);
        System.arraycopy(places[to], 0, p, 0, places[to].length);
        p[exponent] = BigInteger.valueOf(coefficient);
        return put(to, trimmed(p));
    }

    int write(int place) {
        place(place);
        page = write(places[place]);
        return page.length();
    }

    int pageLength() {
        return page.length();
    }

    int pageAt(int index) {
        if (index < 0 || index >= page.length()) {
            throw new IndexOutOfBoundsException();
        }
        return page.charAt(index);
    }

    String page() {
        return page;
    }

    int degree(int place) {
        place(place);
        return places[place].length - 1;
    }

    int sign(int place, int exponent) {
        place(place);
        return at(places[place], exponent).signum();
    }

    int coefficient(int place, int exponent, int modulus) {
        place(place);
        range(modulus, 2, Integer.MAX_VALUE);
        return at(places[place], exponent).mod(BigInteger.valueOf(modulus)).intValue();
    }

    int length(int place, int exponent) {
        place(place);
        return at(places[place], exponent).abs().bitLength();
    }

    boolean isSame(int one, int other) {
        place(one, other);
        return List.of(places[one]).equals(List.of(places[other]));
    }

    int copy(int one, int to) {
        place(one, to);
        return put(to, places[one]);
    }

    int add(int one, int other, int to) {
        place(one, other, to);
        return put(to, sum(places[one], places[other], 1));
    }

    int subtract(int one, int other, int to) {
        place(one, other, to);
        return put(to, sum(places[one], places[other], -1));
    }

    int multiply(int one, int other, int to) {
        place(one, other, to);
        return put(to, product(places[one], places[other]));
    }

    int scale(int one, long factor, int to) {
        place(one, to);
        return put(to, product(places[one], trimmed(new BigInteger[] {BigInteger.valueOf(factor)})));
    }

    int power(int one, int exponent, int to) {
        place(one, to);
        range(exponent, 0, 7);
        BigInteger[] p = {ONE};
        for (int i = 0; i < exponent; i++) {
            p = product(p, places[one]);
        }
        return put(to, p);
    }

    int compose(int one, int other, int to) {
        place(one, other, to);
        BigInteger[] sum = new BigInteger[0];
        BigInteger[] power = {ONE};
        for (BigInteger c : places[one]) {
            sum = sum(sum, product(power, trimmed(new BigInteger[] {c})), 1);
            power = product(power, places[other]);
        }
        return put(to, sum);
    }

    int slope(int one, int to) {
        place(one, to);
        return put(to, derivative(places[one]));
    }

    int primitive(int one, int to) {
        place(one, to);
        return put(to, primitivePart(places[one]));
    }

    private int page(String written) {
        page = written;
        return written.length();
    }

    int writeContent(int place) {
        place(place);
        return page(content(places[place]).toString());
    }

    int divide(int one, int by, int quotient, int rest) {
        place(one, by, quotient, rest);
        if (quotient == rest) {
            throw new IllegalArgumentException();
        }
        BigInteger[] b = places[by];
        if (b.length == 0) {
            return -1;
        }
        int k = Math.max(places[one].length - b.length + 1, 0);
        Ratio[] a = ratios(product(places[one], new BigInteger[] {b[b.length - 1].pow(k)}));
        BigInteger[] r = whole(remainder(a, ratios(b)));
        BigInteger[] q = quotient(sum(product(places[one], new BigInteger[] {b[b.length - 1].pow(k)}), r, -1), b);
        fits(q);
        fits(r);
        change();
        places[quotient] = q;
        places[rest] = r;
        return k;
    }

    private static BigInteger[] whole(Ratio[] p) {
        BigInteger[] q = new BigInteger[p.length];
        for (int i = 0; i < p.length; i++) {
            q[i] = p[i].over.divide(p[i].under);
        }
        return q;
    }

    boolean divides(int one, int other) {
        place(one, other);
        return quotient(places[other], places[one]) != null;
    }

    int gcd(int one, int other, int to) {
        place(one, other, to);
        return put(to, greatest(places[one], places[other]));
    }

    int resultant(int one, int other) {
        place(one, other);
        BigInteger r = resultantOf(places[one], places[other]);
        page = r.toString();
        return r.signum();
    }

    int discriminant(int place) {
        place(place);
        BigInteger[] p = places[place];
        int n = p.length - 1;
        BigInteger d = ZERO;
        if (n > 0) {
            d = resultantOf(p, derivative(p)).divide(p[n]);
            d = n * (n - 1) / 2 % 2 == 1 ? d.negate() : d;
        }
        page = d.toString();
        return d.signum();
    }

    int part(int one, int times, int to) {
        place(one, to);
        range(times, 1, 7);
        notZero(one);
        return put(to, partOf(places[one], times));
    }

    int signAt(int place, long over, int under) {
        place(place);
        fraction(over, under);
        return valueOf(places[place], new Ratio(over, under)).signum();
    }

    int value(int place, long over, int under) {
        place(place);
        fraction(over, under);
        Ratio v = valueOf(places[place], new Ratio(over, under));
        return page(v.written());
    }

    int roots(int place) {
        place(place);
        notZero(place);
        return countRoots(places[place], null);
    }

    int rootsUpTo(int place, long over, int under) {
        place(place);
        fraction(over, under);
        notZero(place);
        return countRoots(places[place], new Ratio(over, under));
    }

    int box(int place, int root, int digits) {
        place(place);
        if (places[place].length == 0 || root < 0 || root >= countRoots(places[place], null)) {
            throw new IndexOutOfBoundsException();
        }
        range(digits, 0, 8);
        BigInteger[] p = places[place];
        if (countRoots(p, new Ratio(-500, 1)) > root || countRoots(p, new Ratio(500, 1)) <= root) {
            throw new IllegalStateException();
        }
        // Bit by bit: the greatest m for which the root is above m / 2^digits.
        int m = -500 << digits;
        for (int step = 1 << 17; step > 0; step >>= 1) {
            if (m + step < 500 << digits && countRoots(p, new Ratio(m + step, 1 << digits)) <= root) {
                m += step;
            }
        }
        return m;
    }

    static List<Integer> allWholeRoots(BigInteger[] p) {
        List<Integer> all = new ArrayList<>();
        for (int x = -1000; x <= 1000; x++) {
            if (wholeValue(p, x).signum() == 0) {
                all.add(x);
            }
        }
        return all;
    }

    private static BigInteger wholeValue(BigInteger[] p, int x) {
        BigInteger v = ZERO;
        for (int i = p.length - 1; i >= 0; i--) {
            v = v.multiply(BigInteger.valueOf(x)).add(p[i]);
        }
        return v;
    }

    int wholeRoots(int place) {
        place(place);
        notZero(place);
        return allWholeRoots(places[place]).size();
    }

    int wholeRoot(int place, int index) {
        place(place);
        notZero(place);
        List<Integer> all = allWholeRoots(places[place]);
        if (index < 0 || index >= all.size()) {
            throw new NoSuchElementException();
        }
        return all.get(index);
    }

    int rootsModulo(int place, int modulus) {
        place(place);
        range(modulus, 1, 1000);
        int count = 0;
        for (int x = 0; x < modulus; x++) {
            count += wholeValue(places[place], x).mod(BigInteger.valueOf(modulus)).signum() == 0 ? 1 : 0;
        }
        return count;
    }

    int addPoint(int x, int y) {
        range(x, -50, 50);
        range(y, -1000000, 1000000);
        for (int[] p : points) {
            if (p[0] == x) {
                throw new IllegalStateException();
            }
        }
        if (points.size() == 8) {
            throw new IllegalStateException();
        }
        points.add(new int[] {x, y});
        return points.size();
    }

    int clearPoints() {
        int n = points.size();
        points.clear();
        return n;
    }

    /** Newton's divided differences. */
    private Ratio[] curve() {
        int n = points.size();
        Ratio[] c = new Ratio[n];
        for (int i = 0; i < n; i++) {
            c[i] = new Ratio(points.get(i)[1], 1);
        }
        for (int level = 1; level < n; level++) {
            for (int i = n - 1; i >= level; i--) {
                c[i] = c[i].minus(c[i - 1]).over(new Ratio(points.get(i)[0] - points.get(i - level)[0], 1));
            }
        }
        Ratio[] p = new Ratio[n];
        java.util.Arrays.fill(p, new Ratio(0, 1));
        for (int i = n - 1; i >= 0; i--) {
            Ratio x = new Ratio(points.get(i)[0], 1);
            for (int j = n - 1; j >= 0; j--) {
                p[j] = (j > 0 ? p[j - 1] : new Ratio(0, 1)).minus(x.times(p[j]));
            }
            p[0] = p[0].plus(c[i]);
        }
        return p;
    }

    /** The number d, even if it is too great. */
    BigInteger numberD() {
        BigInteger d = ONE;
        for (Ratio r : curve()) {
            d = d.multiply(r.under).divide(d.gcd(r.under));
        }
        return d;
    }

    long interpolate(int to) {
        place(to);
        Ratio[] p = curve();
        BigInteger d = numberD();
        BigInteger[] q = new BigInteger[p.length];
        for (int i = 0; i < p.length; i++) {
            q[i] = p[i].times(new Ratio(d, ONE)).over;
        }
        if (d.bitLength() > 63) {
            throw new IllegalStateException();
        }
        put(to, trimmed(q));
        return d.longValue();
    }

    int undo() {
        if (states.isEmpty()) {
            return -1;
        }
        BigInteger[][] state = states.remove(states.size() - 1);
        System.arraycopy(state, 0, places, 0, 8);
        return states.size();
    }

    int errors(int one, int other) {
        place(one, other);
        return 0;
    }

    double meanDegree() {
        double sum = 0;
        for (BigInteger[] p : places) {
            sum += p.length - 1;
        }
        return sum / 8.0;
    }

    float zeroShare() {
        float count = 0;
        for (BigInteger[] p : places) {
            count += p.length == 0 ? 1 : 0;
        }
        return count / 8.0f;
    }

    /** The polynomial at a place as it is written. */
    String show(int place) {
        return write(places[place]);
    }

    /** A fraction in lowest terms. */
    static final class Ratio {
        final BigInteger over;
        final BigInteger under;

        Ratio(BigInteger over, BigInteger under) {
            BigInteger g = over.gcd(under);
            g = under.signum() < 0 ? g.negate() : g;
            this.over = over.divide(g);
            this.under = under.divide(g);
        }

        Ratio(long over, long under) {
            this(BigInteger.valueOf(over), BigInteger.valueOf(under));
        }

        int signum() {
            return over.signum();
        }

        String written() {
            return under.equals(ONE) ? over.toString() : over + "/" + under;
        }

        Ratio plus(Ratio r) {
            return new Ratio(over.multiply(r.under).add(r.over.multiply(under)), under.multiply(r.under));
        }

        Ratio minus(Ratio r) {
            return new Ratio(over.multiply(r.under).subtract(r.over.multiply(under)), under.multiply(r.under));
        }

        Ratio times(Ratio r) {
            return new Ratio(over.multiply(r.over), under.multiply(r.under));
        }

        Ratio over(Ratio r) {
            return new Ratio(over.multiply(r.under), under.multiply(r.over));
        }
    }
}
