import java.lang.reflect.Method;
import java.lang.reflect.Modifier;
import java.net.URL;
import java.net.URLClassLoader;
import java.nio.file.Files;
import java.nio.file.Path;
import java.util.ArrayList;
import java.util.List;
import java.util.regex.Matcher;
import java.util.regex.Pattern;
import javax.tools.ToolProvider;

/** README.md's example compiles, each call answers what stands behind it, and each method is named. */
public final class ReadmeTest {
    private static final Pattern CALL = Pattern.compile("(desk\\..*);\\s+// (throws \\w+|-?\\d+|true|false)(|[:;] .*)");
    private static final Pattern PAGE = Pattern.compile(".*the page(?: has|, which is) ([^ ,;]+).*");

    private static final Due DUE = new Due("ReadmeTest");

    public static void main(String[] args) throws Exception {
        String readme = Files.readString(Path.of("README.md"));
        List<Matcher> calls = calls(readme);
        List<String[]> answers = answers(calls);
        DUE.same("answers", answers.size(), calls.size());
        for (int i = 0; i < calls.size(); i++) {
            Matcher call = calls.get(i);
            DUE.text(call.group(1), answers.get(i)[0], call.group(2));
            Matcher page = PAGE.matcher(call.group(3));
            if (page.matches()) {
                DUE.text("the page behind " + call.group(1), answers.get(i)[1], page.group(1));
            }
        }
        eachMethodIsNamed(readme);
        DUE.end();
    }

    private static List<Matcher> calls(String readme) {
        List<Matcher> calls = new ArrayList<>();
        String block = readme.replaceFirst("(?s).*?```java\n(.*?)```.*", "$1");
        DUE.is("one block of Java", readme.split("```java", -1).length == 2, true);
        String[] lines = block.split("\n");
        DUE.text("the first line", lines[0], "PolynomialBench desk = new PolynomialBench();");
        for (int i = 1; i < lines.length; i++) {
            Matcher call = CALL.matcher(lines[i]);
            DUE.is("a call with its answer: " + lines[i], call.matches(), true);
            if (call.matches()) {
                calls.add(call);
            }
        }
        DUE.is("there are calls", calls.isEmpty(), false);
        return calls;
    }

    /** For each call its answer, and the page behind it; the calls are compiled as they stand. */
    private static List<String[]> answers(List<Matcher> calls) throws Exception {
        StringBuilder code = new StringBuilder("public final class Example {\n"
                + "public static void run(java.util.List<String[]> answers) {\n"
                + "PolynomialBench desk = new PolynomialBench();\n");
        for (Matcher call : calls) {
            code.append("{ String answer; try { answer = String.valueOf(").append(call.group(1))
                    .append("); } catch (RuntimeException e) { answer = \"throws \" + e.getClass().getSimpleName(); }\n")
                    .append("String page = \"\"; for (int i = 0; i < desk.pageLength(); i++) ")
                    .append("page += (char) desk.pageAt(i);\n")
                    .append("answers.add(new String[] {answer, page}); }\n");
        }
        Path folder = Files.createTempDirectory("readme");
        Path source = folder.resolve("Example.java");
        Path compiled = folder.resolve("Example.class");
        List<String[]> answers = new ArrayList<>();
        try {
            Files.writeString(source, code.append("}\n}\n"));
            int wrong = ToolProvider.getSystemJavaCompiler().run(null, null, null, "-proc:none", "-cp",
                    System.getProperty("java.class.path"), "-d", folder.toString(), source.toString());
            DUE.same("compiling the example", wrong, 0);
            if (wrong == 0) {
                try (URLClassLoader loader = new URLClassLoader(new URL[] {folder.toUri().toURL()})) {
                    loader.loadClass("Example").getMethod("run", List.class).invoke(null, answers);
                }
            }
        } finally {
            Files.deleteIfExists(compiled);
            Files.deleteIfExists(source);
            Files.deleteIfExists(folder);
        }
        return answers;
    }

    private static void eachMethodIsNamed(String readme) {
        for (Method method : PolynomialBench.class.getDeclaredMethods()) {
            if (Modifier.isPublic(method.getModifiers())) {
                DUE.is("named: " + method.getName(), readme.contains("`" + method.getName() + "`"), true);
            }
        }
    }
}
