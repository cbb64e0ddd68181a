import java.util.function.Consumer;
import java.util.function.Supplier;

/** Counts the answers that are not as due, and makes calls of a desk short to write. */
final class Due {
    static final Class<IndexOutOfBoundsException> PLACE = IndexOutOfBoundsException.class;
    static final Class<IllegalArgumentException> RANGE = IllegalArgumentException.class;
    static final Class<IllegalStateException> STATE = IllegalStateException.class;
    static final int[] NO_PLACES = {-1, 8, Integer.MIN_VALUE, Integer.MAX_VALUE};
    static final String[] PARTS = {"page", "places", "changes", "points", "text"};

    private static final int[] MODULI = {2, 999_999_937, Integer.MAX_VALUE};

    private final String name;
    private int checks;
    private int wrong;

    Due(String name) {
        this.name = name;
    }

    void same(String what, long got, long want) {
        checks++;
        if (got != want) {
            fail(what + " answered " + got + ", due is " + want);
        }
    }

    void same(String what, double got, double want) {
        checks++;
        if (got != want) {
            fail(what + " answered " + got + ", due is " + want);
        }
    }

    void is(String what, boolean got, boolean want) {
        same(what, got ? 1 : 0, want ? 1 : 0);
    }

    void text(String what, String got, String want) {
        checks++;
        if (!got.equals(want)) {
            fail(what + " answered \"" + got + "\", due is \"" + want + "\"");
        }
    }

    /** The call throws just this exception, and nothing that can be seen of the desk changes. */
    void thrown(String what, PolynomialBench desk, Class<? extends RuntimeException> want, Runnable call) {
        checks++;
        String before = sight(desk);
        Class<?> got = null;
        try {
            call.run();
        } catch (RuntimeException e) {
            got = e.getClass();
        }
        if (got != want) {
            fail(what + " threw " + got + ", due is " + want);
        }
        text(what + ": the desk after the throw", sight(desk), before);
    }

    /** The call throws just this exception, and the desk holds afterwards all that a desk without this call holds. */
    void refused(String what, Supplier<PolynomialBench> scene, Class<?> want, Consumer<PolynomialBench> call) {
        checks++;
        PolynomialBench desk = scene.get();
        Class<?> got = null;
        try {
            call.accept(desk);
        } catch (RuntimeException e) {
            got = e.getClass();
        }
        if (got != want) {
            fail(what + " threw " + got + ", due is " + want);
        }
        String[] before = allOf(scene.get());
        String[] after = allOf(desk);
        for (int i = 0; i < PARTS.length; i++) {
            text(what + ": the " + PARTS[i] + " after the throw", after[i], before[i]);
        }
    }

    void fail(String message) {
        wrong++;
        System.out.println(name + ": " + message);
    }

    boolean isFine() {
        return wrong == 0;
    }

    /** Ends the program, with exit code 1 if an answer was wrong. */
    void end() {
        System.out.println(name + ": " + checks + " checks, " + wrong + " wrong");
        if (wrong != 0) {
            System.exit(1);
        }
    }

    static void type(PolynomialBench desk, String text) {
        long bytes = 0;
        for (int i = 0; i < text.length(); i++) {
            bytes = bytes << 8 | text.charAt(i);
            if (i % 8 == 7 || i == text.length() - 1) {
                desk.type(bytes);
                bytes = 0;
            }
        }
    }

    /** Empties the text, types another one, and reads it. */
    static int put(PolynomialBench desk, int place, String polynomial) {
        desk.clearText();
        type(desk, polynomial);
        return desk.read(place);
    }

    static String page(PolynomialBench desk) {
        StringBuilder page = new StringBuilder();
        for (int i = 0; i < desk.pageLength(); i++) {
            page.append((char) desk.pageAt(i));
        }
        return page.toString();
    }

    static String show(PolynomialBench desk, int place) {
        desk.write(place);
        return page(desk);
    }

    static PolynomialBench desk(String... polynomials) {
        PolynomialBench desk = new PolynomialBench();
        for (int i = 0; i < polynomials.length; i++) {
            put(desk, i, polynomials[i]);
        }
        desk.clearText();
        return desk;
    }

    /** What can be seen of a desk by calls that change nothing. */
    static String sight(PolynomialBench desk) {
        StringBuilder sight = new StringBuilder(page(desk));
        sight.append(" text ").append(desk.type(0)).append(' ').append(desk.errorKind());
        sight.append(' ').append(desk.errorPlace());
        for (int place = 0; place < 8; place++) {
            sight.append(" place ").append(desk.degree(place));
            for (int exponent = 0; exponent <= desk.degree(place); exponent++) {
                sight.append(' ').append(desk.sign(place, exponent)).append(desk.length(place, exponent));
                for (int modulus : MODULI) {
                    sight.append(',').append(desk.coefficient(place, exponent, modulus));
                }
            }
        }
        return sight.toString();
    }

    static String places(PolynomialBench desk) {
        StringBuilder places = new StringBuilder();
        for (int place = 0; place < 8; place++) {
            places.append(show(desk, place)).append(", ");
        }
        return places.toString();
    }

    /** All that can be told of a desk, in the order of PARTS; the calls that tell it use the desk up. */
    static String[] allOf(PolynomialBench desk) {
        String page = page(desk);
        String places = places(desk);
        StringBuilder changes = new StringBuilder();
        for (int left = desk.undo(); left >= 0; left = desk.undo()) {
            changes.append(left).append(": ").append(places(desk));
        }
        return new String[] {page, places, changes.toString(), pointsOf(desk), textOf(desk)};
    }

    private static String pointsOf(PolynomialBench desk) {
        String curve;
        try {
            curve = desk.interpolate(0) + " " + show(desk, 0);
        } catch (IllegalStateException e) {
            curve = "too great";
        }
        return curve + " " + desk.clearPoints();
    }

    private static String textOf(PolynomialBench desk) {
        String text = desk.type(0) + " " + desk.errorKind() + " " + desk.errorPlace();
        if (desk.errorKind() != 0) {
            return text;
        }
        desk.read(0);
        return text + " " + show(desk, 0);
    }
}
