import java.util.Random;
import java.util.function.Supplier;

/** Runs of calls from fixed seeds, each on a new desk and on the model: both must tell the same all the time. */
public final class RandomRunsTest {
    private static final int RUNS = 60;
    private static final int CALLS = 512;

    private final Due due;
    private final Random random;
    private final int seed;
    private final PolynomialBench desk = new PolynomialBench();
    private final Model model = new Model();
    private final StringBuilder log = new StringBuilder();

    private RandomRunsTest(Due due, int seed) {
        this.due = due;
        this.seed = seed;
        this.random = new Random(seed);
    }

    public static void main(String[] args) {
        Due due = new Due("RandomRunsTest");
        int runs = args.length > 0 ? Integer.parseInt(args[0]) : RUNS;
        int first = args.length > 1 ? Integer.parseInt(args[1]) : 1;
        for (int seed = first; seed < first + runs && due.isFine(); seed++) {
            new RandomRunsTest(due, seed).run();
        }
        due.end();
    }

    private void run() {
        for (int i = 0; i < CALLS && due.isFine(); i++) {
            if (random.nextInt(4) == 0) {
                change();
            } else if (random.nextInt(3) == 0) {
                typing();
            } else if (random.nextInt(2) == 0) {
                changeMore();
            } else {
                look();
            }
            compare();
        }
        if (!due.isFine()) {
            System.out.println("seed " + seed + ", the last calls:\n" + log.substring(Math.max(0, log.length() - 1500)));
        }
    }

    private void compare() {
        due.text("page of seed " + seed, Due.page(desk), model.page());
        for (int place = 0; place < 8; place++) {
            due.same("degree " + place, desk.degree(place), model.degree(place));
            for (int e = 0; e <= desk.degree(place); e++) {
                due.same("sign", desk.sign(place, e), model.sign(place, e));
                due.same("length", desk.length(place, e), model.length(place, e));
                due.same("coefficient", desk.coefficient(place, e, 999_999_937), model.coefficient(place, e, 999_999_937));
                due.same("coefficient", desk.coefficient(place, e, 2147483647), model.coefficient(place, e, 2147483647));
            }
        }
    }

    private void call(String what, Supplier<Object> mine, Supplier<Object> models) {
        log.append(what).append('\n');
        due.text(what, answer(mine), answer(models));
    }

    private static String answer(Supplier<Object> call) {
        try {
            return String.valueOf(call.get());
        } catch (RuntimeException e) {
            return e.getClass().getSimpleName();
        }
    }

    private int place() {
        return random.nextInt(60) == 0 ? random.nextInt(12) - 2 : random.nextInt(8);
    }

    private int exponent() {
        return random.nextInt(30) == 0 ? random.nextInt() : random.nextInt(10) - 1;
    }

    private long whole() {
        switch (random.nextInt(6)) {
            case 0: return random.nextLong();
            case 1: return random.nextInt(2001) - 1000;
            case 2: return random.nextBoolean() ? Long.MIN_VALUE : Long.MAX_VALUE;
            default: return random.nextInt(11) - 5;
        }
    }

    private long over() {
        switch (random.nextInt(12)) {
            case 0: return 1_000_001L * (random.nextBoolean() ? 1 : -1);
            case 1: return random.nextLong();
            case 2: return 1_000_000L * (random.nextBoolean() ? 1 : -1);
            case 3: case 4: return random.nextInt(2_000_001) - 1_000_000;
            default: return random.nextInt(41) - 20;
        }
    }

    private int under() {
        switch (random.nextInt(12)) {
            case 0: return random.nextInt(3) - 1;
            case 1: return 1000 + random.nextInt(2);
            case 2: case 3: return 1 + random.nextInt(1000);
            default: return 1 + random.nextInt(4);
        }
    }

    private String polynomial() {
        StringBuilder text = new StringBuilder();
        int terms = 1 + random.nextInt(random.nextInt(3) == 0 ? 8 : 3);
        int digits = random.nextInt(6) == 0 ? 30 : random.nextInt(3) == 0 ? 6 : 1;
        for (int i = 0; i < terms; i++) {
            String sign = random.nextBoolean() ? "-" : i > 0 || random.nextInt(5) == 0 ? "+" : "";
            text.append(sign);
            int exponent = random.nextInt(random.nextInt(4) == 0 ? 8 : 4);
            if (exponent == 0 || random.nextInt(3) > 0) {
                for (int n = 1 + random.nextInt(digits); n > 0; n--) {
                    text.append((char) ('0' + random.nextInt(10)));
                }
            }
            text.append(exponent == 0 ? "" : exponent == 1 ? "x" : "x^" + exponent);
        }
        if (random.nextInt(3) == 0) {
            for (int n = random.nextInt(4); n > 0; n--) {
                String more = random.nextInt(4) == 0 ? "+-^x 078y".charAt(random.nextInt(9)) + "" : " ";
                text.insert(random.nextInt(text.length() + 1), more);
            }
        }
        return text.toString();
    }

    private void typing() {
        if (random.nextInt(10) > 0) {
            call("clearText", desk::clearText, model::clearText);
        }
        if (random.nextInt(10) == 0) {
            long bytes = random.nextLong();
            call("type " + bytes, () -> desk.type(bytes), () -> model.type(bytes));
        }
        String text = polynomial();
        log.append(text).append('\n');
        long bytes = 0;
        for (int i = 0; i < text.length(); i++) {
            bytes = bytes << 8 | text.charAt(i);
            if (i % 8 == 7 || i == text.length() - 1) {
                long now = bytes;
                call("type " + now, () -> desk.type(now), () -> model.type(now));
                bytes = 0;
            }
        }
        call("errorKind", desk::errorKind, model::errorKind);
        call("errorPlace", desk::errorPlace, model::errorPlace);
        int to = place();
        call("read " + to, () -> desk.read(to), () -> model.read(to));
    }

    private void change() {
        int one = place();
        int other = place();
        int to = place();
        int e = exponent();
        long c = whole();
        switch (random.nextInt(9)) {
            case 0: call("set " + to + " " + e + " " + c, () -> desk.set(to, e, c), () -> model.set(to, e, c)); break;
            case 1: call("copy " + one + " " + to, () -> desk.copy(one, to), () -> model.copy(one, to)); break;
            case 2: call("add " + one + " " + other + " " + to,
                    () -> desk.add(one, other, to), () -> model.add(one, other, to)); break;
            case 3: call("subtract " + one + " " + other + " " + to,
                    () -> desk.subtract(one, other, to), () -> model.subtract(one, other, to)); break;
            case 4: case 5: call("multiply " + one + " " + other + " " + to,
                    () -> desk.multiply(one, other, to), () -> model.multiply(one, other, to)); break;
            case 6: call("scale " + one + " " + c + " " + to,
                    () -> desk.scale(one, c, to), () -> model.scale(one, c, to)); break;
            case 7: call("power " + one + " " + e + " " + to,
                    () -> desk.power(one, e, to), () -> model.power(one, e, to)); break;
            default: call("compose " + one + " " + other + " " + to,
                    () -> desk.compose(one, other, to), () -> model.compose(one, other, to)); break;
        }
    }

    private void changeMore() {
        int one = place();
        int other = place();
        int to = place();
        int rest = place();
        int e = exponent();
        int x = random.nextInt(20) == 0 ? random.nextInt(110) - 55 : random.nextInt(17) - 8;
        int y = random.nextInt(20) == 0 ? random.nextInt() : random.nextInt(31) - 15;
        switch (random.nextInt(9)) {
            case 0: call("slope " + one + " " + to, () -> desk.slope(one, to), () -> model.slope(one, to)); break;
            case 1: call("primitive " + one + " " + to,
                    () -> desk.primitive(one, to), () -> model.primitive(one, to)); break;
            case 2: call("divide " + one + " " + other + " " + to + " " + rest,
                    () -> desk.divide(one, other, to, rest), () -> model.divide(one, other, to, rest)); break;
            case 3: call("gcd " + one + " " + other + " " + to,
                    () -> desk.gcd(one, other, to), () -> model.gcd(one, other, to)); break;
            case 4: call("part " + one + " " + e + " " + to,
                    () -> desk.part(one, e, to), () -> model.part(one, e, to)); break;
            case 5: call("interpolate " + to, () -> desk.interpolate(to), () -> model.interpolate(to)); break;
            case 6: call("undo", desk::undo, model::undo); break;
            case 7:
                if (random.nextInt(6) == 0) {
                    call("clearPoints", desk::clearPoints, model::clearPoints);
                }
                call("addPoint " + x + " " + y, () -> desk.addPoint(x, y), () -> model.addPoint(x, y)); break;
            default: call("addPoint " + x + " " + y, () -> desk.addPoint(x, y), () -> model.addPoint(x, y)); break;
        }
    }

    private void look() {
        int one = place();
        int other = place();
        int e = exponent();
        int modulus = random.nextInt(5) == 0 ? random.nextInt() : random.nextInt(1003);
        switch (random.nextInt(11)) {
            case 0: call("write " + one, () -> desk.write(one), () -> model.write(one)); break;
            case 1: call("pageAt " + e, () -> desk.pageAt(e), () -> model.pageAt(e)); break;
            case 2: call("sign " + one + " " + e, () -> desk.sign(one, e), () -> model.sign(one, e)); break;
            case 3: call("coefficient " + one + " " + e + " " + modulus,
                    () -> desk.coefficient(one, e, modulus), () -> model.coefficient(one, e, modulus)); break;
            case 4: call("length " + one + " " + e, () -> desk.length(one, e), () -> model.length(one, e)); break;
            case 5: call("isSame " + one + " " + other,
                    () -> desk.isSame(one, other), () -> model.isSame(one, other)); break;
            case 6: call("writeContent " + one, () -> desk.writeContent(one), () -> model.writeContent(one)); break;
            case 7: call("means", () -> desk.meanDegree() + " " + desk.zeroShare(),
                    () -> model.meanDegree() + " " + model.zeroShare()); break;
            case 8: call("resultant " + one + " " + other,
                    () -> desk.resultant(one, other), () -> model.resultant(one, other)); break;
            case 9: call("discriminant " + one, () -> desk.discriminant(one), () -> model.discriminant(one)); break;
            default: lookAtRoots(one, other, modulus); break;
        }
    }

    private void lookAtRoots(int one, int other, int modulus) {
        long over = over();
        int under = under();
        int root = random.nextInt(8) == 0 ? random.nextInt(10) - 1 : random.nextInt(3);
        int digits = random.nextInt(11) - 1;
        switch (random.nextInt(10)) {
            case 0: call("signAt " + one + " " + over + "/" + under,
                    () -> desk.signAt(one, over, under), () -> model.signAt(one, over, under)); break;
            case 1: call("value " + one + " " + over + "/" + under,
                    () -> desk.value(one, over, under), () -> model.value(one, over, under)); break;
            case 2: call("roots " + one, () -> desk.roots(one), () -> model.roots(one)); break;
            case 3: call("rootsUpTo " + one + " " + over + "/" + under,
                    () -> desk.rootsUpTo(one, over, under), () -> model.rootsUpTo(one, over, under)); break;
            case 4: case 5: call("box " + one + " " + root + " " + digits,
                    () -> desk.box(one, root, digits), () -> model.box(one, root, digits)); break;
            case 6: call("wholeRoots " + one, () -> desk.wholeRoots(one), () -> model.wholeRoots(one)); break;
            case 7: call("wholeRoot " + one + " " + root,
                    () -> desk.wholeRoot(one, root), () -> model.wholeRoot(one, root)); break;
            case 8: call("rootsModulo " + one + " " + modulus,
                    () -> desk.rootsModulo(one, modulus), () -> model.rootsModulo(one, modulus)); break;
            default: call("divides, errors " + one + " " + other,
                    () -> desk.divides(one, other) + " " + desk.errors(one, other),
                    () -> model.divides(one, other) + " " + model.errors(one, other)); break;
        }
    }
}
