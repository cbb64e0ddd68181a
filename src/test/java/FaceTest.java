import java.lang.reflect.Constructor;
import java.lang.reflect.Field;
import java.lang.reflect.Method;
import java.lang.reflect.Modifier;
import java.util.Arrays;
import java.util.Set;
import java.util.TreeSet;

/** The class shows what the document's face shows, and nothing more. */
public final class FaceTest {
    private static final String[] FACE = {
        "int type(long) IllegalStateException",
        "int clearText()",
        "int errorKind()",
        "int errorPlace()",
        "int read(int) IndexOutOfBoundsException IllegalStateException",
        "int set(int,int,long) IndexOutOfBoundsException IllegalArgumentException",
        "int write(int) IndexOutOfBoundsException",
        "int pageLength()",
        "int pageAt(int) IndexOutOfBoundsException",
        "int degree(int) IndexOutOfBoundsException",
        "int sign(int,int) IndexOutOfBoundsException",
        "int coefficient(int,int,int) IndexOutOfBoundsException IllegalArgumentException",
        "int length(int,int) IndexOutOfBoundsException",
        "boolean isSame(int,int) IndexOutOfBoundsException",
        "int copy(int,int) IndexOutOfBoundsException",
        "int add(int,int,int) IndexOutOfBoundsException IllegalStateException",
        "int subtract(int,int,int) IndexOutOfBoundsException IllegalStateException",
        "int multiply(int,int,int) IndexOutOfBoundsException IllegalStateException",
        "int scale(int,long,int) IndexOutOfBoundsException IllegalStateException",
        "int power(int,int,int) IndexOutOfBoundsException IllegalArgumentException IllegalStateException",
        "int compose(int,int,int) IndexOutOfBoundsException IllegalStateException",
        "int slope(int,int) IndexOutOfBoundsException IllegalStateException",
        "int primitive(int,int) IndexOutOfBoundsException",
        "int writeContent(int) IndexOutOfBoundsException",
        "int divide(int,int,int,int) IndexOutOfBoundsException IllegalArgumentException IllegalStateException",
        "boolean divides(int,int) IndexOutOfBoundsException",
        "int gcd(int,int,int) IndexOutOfBoundsException IllegalStateException",
        "int resultant(int,int) IndexOutOfBoundsException",
        "int discriminant(int) IndexOutOfBoundsException",
        "int part(int,int,int) IndexOutOfBoundsException IllegalArgumentException IllegalStateException",
        "int signAt(int,long,int) IndexOutOfBoundsException IllegalArgumentException",
        "int value(int,long,int) IndexOutOfBoundsException IllegalArgumentException",
        "int roots(int) IndexOutOfBoundsException IllegalStateException",
        "int rootsUpTo(int,long,int) IndexOutOfBoundsException IllegalArgumentException IllegalStateException",
        "int box(int,int,int) IndexOutOfBoundsException IllegalArgumentException IllegalStateException",
        "int wholeRoots(int) IndexOutOfBoundsException IllegalStateException",
        "int wholeRoot(int,int) IndexOutOfBoundsException IllegalStateException NoSuchElementException",
        "int rootsModulo(int,int) IndexOutOfBoundsException IllegalArgumentException",
        "int addPoint(int,int) IllegalArgumentException IllegalStateException",
        "int clearPoints()",
        "long interpolate(int) IndexOutOfBoundsException IllegalStateException",
        "int undo()",
        "int errors(int,int) IndexOutOfBoundsException",
        "double meanDegree()",
        "float zeroShare()",
    };

    public static void main(String[] args) {
        Due due = new Due("FaceTest");
        Class<?> face = PolynomialBench.class;
        due.same("the class is public and final", face.getModifiers(), Modifier.PUBLIC | Modifier.FINAL);
        due.text("the methods", open(face).toString(), new TreeSet<>(Arrays.asList(FACE)).toString());
        for (Field field : face.getDeclaredFields()) {
            boolean isConstant = field.getName().equals("NONE");
            due.is("private " + field, Modifier.isPrivate(field.getModifiers()), !isConstant);
        }
        for (Constructor<?> constructor : face.getDeclaredConstructors()) {
            due.text("the constructor", constructor.toString(), "public PolynomialBench()");
        }
        Class<?>[] inside = face.getDeclaredClasses();
        due.is("at most twelve classes", inside.length < 12, true);
        for (Class<?> own : inside) {
            due.is("private, static and final " + own, own.getModifiers()
                    == (Modifier.PRIVATE | Modifier.STATIC | Modifier.FINAL), true);
            noNameOfTheFace(due, own);
        }
        due.end();
    }

    private static Set<String> open(Class<?> face) {
        Set<String> all = new TreeSet<>();
        for (Method method : face.getDeclaredMethods()) {
            if (!Modifier.isPrivate(method.getModifiers())) {
                StringBuilder line = new StringBuilder(method.getReturnType() + " " + method.getName() + "(");
                for (Class<?> parameter : method.getParameterTypes()) {
                    line.append(line.charAt(line.length() - 1) == '(' ? "" : ",").append(parameter);
                }
                line.append(')');
                for (Class<?> exception : method.getExceptionTypes()) {
                    line.append(' ').append(exception.getSimpleName());
                }
                all.add(line.toString());
            }
        }
        return all;
    }

    private static void noNameOfTheFace(Due due, Class<?> own) {
        for (Method method : own.getDeclaredMethods()) {
            for (Method other : PolynomialBench.class.getDeclaredMethods()) {
                boolean taken = Modifier.isPublic(other.getModifiers()) && other.getName().equals(method.getName());
                due.is("a name of the face: " + method, taken, false);
            }
        }
    }
}
