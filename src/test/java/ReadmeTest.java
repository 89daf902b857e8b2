import java.nio.file.Files;
import java.nio.file.Path;
import java.util.ArrayList;
import java.util.List;
import javax.tools.JavaCompiler;
import javax.tools.ToolProvider;

/** The Java on the README's page compiles, and its calls answer what stands beside them. */
public final class ReadmeTest {
    private static final String NAME = "ReadmeCode";

    private ReadmeTest() {
    }

    public static void main(String[] args) throws Exception {
        List<String> code = new ArrayList<>();
        code.add("final class " + NAME + " {");
        code.add("public static void main(String[] args) {");
        code.addAll(code(Files.readAllLines(Path.of("README.md"))));
        code.add("}");
        code.add("}");
        run(code);
        Due.end();
    }

    /** Each piece of Java in a block of its own, since each makes its own object. */
    private static List<String> code(List<String> page) {
        List<String> code = new ArrayList<>();
        boolean isCode = false;
        for (String line : page) {
            if (line.equals("```java")) {
                isCode = true;
                code.add("{");
            } else if (isCode && line.equals("```")) {
                isCode = false;
                code.add("}");
            } else if (isCode) {
                code.add(asked(line));
            }
        }
        return code;
    }

    private static String asked(String line) {
        return line.replaceFirst("^(x\\..*);\\s+// (-?\\d+): .*", "Due.is(\"$1\", $1, $2L);");
    }

    /** Its classes come beside those of the tests, which they use. */
    private static void run(List<String> code) throws Exception {
        Path build = Path.of(ReadmeTest.class.getProtectionDomain().getCodeSource().getLocation().toURI());
        Path source = Files.write(build.resolve(NAME + ".java"), code);
        JavaCompiler javac = ToolProvider.getSystemJavaCompiler();
        int failed = javac.run(null, System.out, System.out, "-cp", build.toString(), "-d", build.toString(),
            source.toString());
        Due.is("compiling the code of README.md", failed, 0);
        if (failed == 0) {
            Class.forName(NAME).getDeclaredMethod("main", String[].class).invoke(null, (Object) new String[0]);
        }
    }
}
