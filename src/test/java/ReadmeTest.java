import java.io.ByteArrayOutputStream;
import java.lang.reflect.InvocationTargetException;
import java.net.URL;
import java.net.URLClassLoader;
import java.nio.charset.StandardCharsets;
import java.nio.file.Files;
import java.nio.file.Path;
import java.util.regex.Matcher;
import java.util.regex.Pattern;
import javax.tools.ToolProvider;

/**
 * Compiles what README.md shows of the class and runs it: each call with a number behind // has to
 * answer that number. Argument: the project's folder.
 */
public final class ReadmeTest {
    private static final Pattern BLOCK = Pattern.compile("(?s)```java\n(.*?)```");
    /** A call, perhaps with a name for its answer, and the answer that is shown. */
    private static final Pattern SHOWN = Pattern.compile("(?:int (\\w+) = )?(yard\\.[^;]*);\\s*// (-?\\d+)(?:: .*)?");
    private static final int REFUSALS_FROM = -6;
    private static final int REFUSALS_TO = -2;
    private static final Due DUE = new Due();
    private static int troubles = 0;

    public static void main(String[] args) throws Exception {
        Path here = Path.of(args.length > 0 ? args[0] : ".");
        String page = Files.readString(here.resolve("README.md"));
        Matcher block = BLOCK.matcher(page);
        int blocks = 0;
        while (block.find()) {
            blocks++;
            run(programOf(block.group(1)));
        }
        if (blocks == 0) {
            tell("README.md shows no calls");
        }
        saysWhatItMust(page);
        if (troubles != 0) {
            System.exit(1);
        }
        DUE.end();
    }

    /** What the page's programs call: they have no other way back to this test. */
    public static void shown(String call, long got, long want) {
        DUE.is("README.md: " + call, got, want);
    }

    private static void tell(String what) {
        troubles++;
        System.out.println(what);
    }

    private static String programOf(String block) {
        StringBuilder program = new StringBuilder("public final class Shown { public static void run() {\n");
        for (String line : block.split("\n")) {
            Matcher m = SHOWN.matcher(line);
            if (!m.matches()) {
                if (line.contains("//")) {
                    tell("README.md: this line shows no answer: " + line);
                }
                program.append(line).append('\n');
            } else if (m.group(1) != null) {
                program.append("int " + m.group(1) + " = " + m.group(2) + ";\n" + check(m.group(2), m.group(1), m.group(3)));
            } else {
                program.append(check(m.group(2), m.group(2), m.group(3)));
            }
        }
        return program.append("} }\n").toString();
    }

    private static String check(String call, String got, String want) {
        return "ReadmeTest.shown(\"" + call + "\", " + got + ", " + want + "L);\n";
    }

    private static void run(String program) throws Exception {
        Path folder = Files.createTempDirectory("readme");
        Path source = folder.resolve("Shown.java");
        Files.writeString(source, program);
        ByteArrayOutputStream said = new ByteArrayOutputStream();
        int code = ToolProvider.getSystemJavaCompiler().run(null, said, said, "--release", "17", "-cp",
            System.getProperty("java.class.path"), "-d", folder.toString(), source.toString());
        if (code == 0) {
            call(folder);
        } else {
            tell("README.md: what it shows doesn't compile: " + said.toString(StandardCharsets.UTF_8));
        }
        Files.deleteIfExists(folder.resolve("Shown.class"));
        Files.delete(source);
        Files.delete(folder);
    }

    private static void call(Path folder) throws Exception {
        try (URLClassLoader loader = new URLClassLoader(new URL[] {folder.toUri().toURL()}, ReadmeTest.class.getClassLoader())) {
            loader.loadClass("Shown").getMethod("run").invoke(null);
        } catch (InvocationTargetException e) {
            tell("README.md: what it shows threw " + e.getCause());
        }
    }

    /** How the class is made, how many calls an object is good for, each refusal, how tests are run. */
    private static void saysWhatItMust(String page) {
        for (String words : new String[] {"new OneTwoOneTwo()", "512", ".ci/run", "../shared/tests"}) {
            if (!page.contains(words)) {
                tell("README.md doesn't tell of " + words);
            }
        }
        for (int refusal = REFUSALS_FROM; refusal <= REFUSALS_TO; refusal++) {
            if (!page.contains("| " + refusal + " |") || !page.contains("// " + refusal + ":")) {
                tell("README.md doesn't tell and show the refusal " + refusal);
            }
        }
    }
}
