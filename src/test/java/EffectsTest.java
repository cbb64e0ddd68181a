import java.util.Arrays;
import java.util.List;
import java.util.function.Consumer;
import java.util.function.Supplier;

/** What a call changes and what it leaves: the page, the places, the changes that can be undone, the points, the text. */
public final class EffectsTest {
    private static final Due DUE = new Due("EffectsTest");

    /** A desk whose calls below all change what they may change; three changes have been made. */
    private static PolynomialBench few() {
        PolynomialBench desk = new PolynomialBench();
        Due.put(desk, 0, "6x^3-12x+6");
        Due.put(desk, 1, "2x-1");
        Due.put(desk, 2, "x^2-2x+1");
        desk.clearText();
        Due.type(desk, "3x^2 - 1");
        desk.addPoint(-50, 1000000);
        desk.addPoint(3, -7);
        desk.addPoint(50, 2);
        desk.write(1);
        return desk;
    }

    /** The same behind more than eight changes. */
    private static PolynomialBench many() {
        PolynomialBench desk = few();
        for (int i = 1; i <= 9; i++) {
            desk.set(4, 1, i);
        }
        return desk;
    }

    public static void main(String[] args) {
        changes();
        looks();
        writes();
        texts();
        points();
        undoTakesAllBack();
        samePolynomialIsAChange();
        DUE.end();
    }

    /** The parts that are named, and no other ones, are not as they were. */
    private static void effect(String what, Consumer<PolynomialBench> call, String... named) {
        effect(what, EffectsTest::few, call, named);
        effect(what, EffectsTest::many, call, named);
    }

    private static void effect(String what, Supplier<PolynomialBench> scene, Consumer<PolynomialBench> call,
            String... named) {
        PolynomialBench desk = scene.get();
        call.accept(desk);
        String[] before = Due.allOf(scene.get());
        String[] after = Due.allOf(desk);
        for (int i = 0; i < Due.PARTS.length; i++) {
            boolean due = Arrays.asList(named).contains(Due.PARTS[i]);
            DUE.is(what + " changes the " + Due.PARTS[i], !after[i].equals(before[i]), due);
        }
    }

    /** Each call that puts a polynomial at a place is one change, and changes nothing but that place. */
    private static void change(String what, Consumer<PolynomialBench> call, int... places) {
        effect(what, call, "places", "changes");
        PolynomialBench desk = few();
        call.accept(desk);
        PolynomialBench before = few();
        for (int place = 0; place < 8; place++) {
            boolean put = false;
            for (int to : places) {
                put = put || to == place;
            }
            boolean same = Due.show(desk, place).equals(Due.show(before, place));
            DUE.is(what + " puts something at " + place, !same, put);
        }
        DUE.same(what + " is one change", desk.undo(), 3);
        DUE.text(what + " is taken back", Due.places(desk), Due.places(before));
        PolynomialBench full = many();
        call.accept(full);
        DUE.same(what + " is one change behind eight", full.undo(), 7);
        DUE.text(what + " is taken back", Due.places(full), Due.places(many()));
    }

    private static void changes() {
        change("read", desk -> desk.read(5), 5);
        change("set", desk -> desk.set(0, 7, -1), 0);
        change("copy", desk -> desk.copy(0, 1), 1);
        change("add", desk -> desk.add(0, 1, 5), 5);
        change("add in place", desk -> desk.add(0, 1, 0), 0);
        change("add in place", desk -> desk.add(0, 1, 1), 1);
        change("subtract", desk -> desk.subtract(0, 1, 5), 5);
        change("subtract in place", desk -> desk.subtract(0, 1, 1), 1);
        change("subtract from itself", desk -> desk.subtract(0, 0, 0), 0);
        change("multiply", desk -> desk.multiply(0, 1, 5), 5);
        change("multiply in place", desk -> desk.multiply(0, 1, 1), 1);
        change("square in place", desk -> desk.multiply(0, 0, 0), 0);
        change("scale", desk -> desk.scale(0, 3, 5), 5);
        change("scale in place", desk -> desk.scale(0, 3, 0), 0);
        change("scale to 0", desk -> desk.scale(0, 0, 0), 0);
        change("power", desk -> desk.power(1, 3, 5), 5);
        change("power in place", desk -> desk.power(1, 7, 1), 1);
        change("compose", desk -> desk.compose(0, 1, 5), 5);
        change("compose in place of the outer one", desk -> desk.compose(0, 1, 0), 0);
        change("compose in place of the inner one", desk -> desk.compose(0, 1, 1), 1);
        change("compose with itself", desk -> desk.compose(1, 1, 1), 1);
        change("slope", desk -> desk.slope(0, 5), 5);
        change("slope in place", desk -> desk.slope(0, 0), 0);
        change("primitive", desk -> desk.primitive(0, 5), 5);
        change("primitive in place", desk -> desk.primitive(0, 0), 0);
        change("divide", desk -> desk.divide(0, 1, 5, 6), 5, 6);
        change("divide in place", desk -> desk.divide(0, 1, 0, 1), 0, 1);
        change("divide crosswise", desk -> desk.divide(0, 1, 1, 0), 0, 1);
        change("gcd", desk -> desk.gcd(0, 2, 5), 5);
        change("gcd in place", desk -> desk.gcd(0, 2, 2), 2);
        change("part", desk -> desk.part(2, 2, 5), 5);
        change("part in place", desk -> desk.part(2, 2, 2), 2);
        change("part that there is not", desk -> desk.part(2, 7, 2), 2);
        change("interpolate", desk -> desk.interpolate(5), 5);
    }

    private static void looks() {
        effect("type nothing", desk -> desk.type(0));
        effect("errorKind", desk -> desk.errorKind());
        effect("errorPlace", desk -> desk.errorPlace());
        effect("pageLength", desk -> desk.pageLength());
        effect("pageAt", desk -> desk.pageAt(0));
        effect("degree", desk -> desk.degree(0));
        effect("sign", desk -> desk.sign(0, 3));
        effect("coefficient", desk -> desk.coefficient(0, 3, 7));
        effect("length", desk -> desk.length(0, 3));
        effect("isSame", desk -> desk.isSame(0, 1));
        effect("divides", desk -> desk.divides(1, 0));
        effect("divide by 0", desk -> desk.divide(0, 7, 1, 2));
        effect("divide by 0 in place", desk -> desk.divide(0, 7, 0, 7));
        effect("divide 0 by 0", desk -> desk.divide(6, 7, 0, 1));
        effect("signAt", desk -> desk.signAt(0, 1, 2));
        effect("roots", desk -> desk.roots(0));
        effect("rootsUpTo", desk -> desk.rootsUpTo(0, 1, 2));
        effect("box", desk -> desk.box(0, 2, 8));
        effect("wholeRoots", desk -> desk.wholeRoots(0));
        effect("wholeRoot", desk -> desk.wholeRoot(0, 0));
        effect("rootsModulo", desk -> desk.rootsModulo(0, 1000));
        effect("errors", desk -> desk.errors(0, 2));
        effect("errors of 0", desk -> desk.errors(7, 0));
        effect("meanDegree", desk -> desk.meanDegree());
        effect("zeroShare", desk -> desk.zeroShare());
    }

    private static void writes() {
        effect("write", desk -> desk.write(0), "page");
        effect("write 0", desk -> desk.write(7), "page");
        effect("write the same", desk -> desk.write(1));
        effect("writeContent", desk -> desk.writeContent(0), "page");
        effect("resultant", desk -> desk.resultant(0, 1), "page");
        effect("discriminant", desk -> desk.discriminant(0), "page");
        effect("value", desk -> desk.value(0, 1, 2), "page");
    }

    private static void texts() {
        effect("type", desk -> desk.type('7'), "text");
        effect("type a blank", desk -> desk.type(' '), "text");
        effect("clearText", desk -> desk.clearText(), "text");
        effect("clearText of an empty text", PolynomialBench::new, desk -> desk.clearText());
    }

    private static void points() {
        effect("addPoint", desk -> desk.addPoint(0, 0), "points");
        effect("clearPoints", desk -> desk.clearPoints(), "points");
        effect("clearPoints without any", PolynomialBench::new, desk -> desk.clearPoints());
        effect("undo", desk -> desk.undo(), "places", "changes");
        effect("undo nothing", PolynomialBench::new, desk -> desk.undo());
    }

    /** The text, the points and the page are no part of a change: undo leaves them. */
    private static void undoTakesAllBack() {
        PolynomialBench desk = few();
        for (int left = desk.undo(); left > 0; left = desk.undo()) {
            DUE.is("undo goes down", left < 3, true);
        }
        DUE.text("all places are 0 again", Due.places(desk), Due.places(new PolynomialBench()));
        DUE.same("the text stays", desk.clearText(), 8);
        DUE.same("the points stay", desk.clearPoints(), 3);
        PolynomialBench other = few();
        other.undo();
        DUE.text("the page stays", Due.page(other), "2x-1");
    }

    /** A call that puts what stood there already is a change, too. */
    private static void samePolynomialIsAChange() {
        List<Consumer<PolynomialBench>> calls = List.of(desk -> desk.copy(0, 0), desk -> desk.copy(6, 7),
            desk -> desk.set(1, 1, 2), desk -> desk.set(7, 3, 0), desk -> desk.add(0, 7, 0),
            desk -> desk.subtract(0, 7, 0), desk -> desk.scale(0, 1, 0), desk -> desk.scale(7, 5, 7),
            desk -> desk.power(2, 1, 2), desk -> desk.multiply(0, 7, 7), desk -> desk.compose(7, 0, 7),
            desk -> desk.slope(7, 7), desk -> desk.primitive(2, 2), desk -> desk.divide(7, 0, 6, 7),
            desk -> desk.gcd(7, 7, 7), desk -> desk.gcd(2, 2, 2), desk -> desk.part(1, 1, 1),
            desk -> {
                desk.clearPoints();
                desk.interpolate(7);
            },
            desk -> {
                desk.clearText();
                Due.type(desk, "2x-1");
                desk.read(1);
            });
        for (int i = 0; i < calls.size(); i++) {
            PolynomialBench desk = few();
            calls.get(i).accept(desk);
            DUE.text("nothing is other behind call " + i, Due.places(desk), Due.places(few()));
            DUE.same("call " + i + " is a change", desk.undo(), 3);
            DUE.text("nothing is other behind its undo", Due.places(desk), Due.places(few()));
            DUE.same("the change ahead of it is the next", desk.undo(), 2);
            DUE.same("and undone", desk.degree(2), -1);
        }
    }
}
