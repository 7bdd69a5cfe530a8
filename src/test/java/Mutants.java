import java.io.IOException;
import java.io.OutputStream;
import java.nio.charset.StandardCharsets;
import java.nio.file.Files;
import java.nio.file.Path;
import java.util.ArrayList;
import java.util.Collections;
import java.util.List;
import java.util.Set;
import java.util.TreeSet;
import java.util.concurrent.TimeUnit;
import java.util.regex.Matcher;
import java.util.regex.Pattern;
import java.util.stream.IntStream;
import javax.tools.ToolProvider;

/**
 * Breaks the class in many small ways, one at a time, and tells which of them no Boundary test sees, and
 * which Boundary tests never see any. It is run by hand (it takes some minutes), not by .ci/run:
 * java -cp FOLDER Mutants PROJECT
 */
public final class Mutants {
    private static final String[][] SIGNS = {{" < ", " <= "}, {" <= ", " < "}, {" > ", " >= "}, {" >= ", " > "},
        {" == ", " != "}, {" != ", " == "}, {" && ", " || "}, {" || ", " && "}, {" + ", " - "}, {" - ", " + "},
        {" % ", " / "}, {" / ", " % "}, {" >>> ", " >> "}, {"(!", "("}, {"&& !", "&& "}, {"|| !", "|| "},
        {"Math.max", "Math.min"}, {"Math.min", "Math.max"}, {"Math.abs", ""}, {"true", "false"}, {"false", "true"},
        {"refuse(BAD)", "BAD"}, {"refuse(OTHER)", "OTHER"}, {"refuse(NOTHING)", "NOTHING"}, {"refuse(STUCK)", "STUCK"},
        {"refuse(FULL)", "FULL"}, {"refuse(trouble)", "trouble"}, {"refuse(BAD)", "refuse(STUCK)"},
        {"return BAD;", "return OTHER;"}, {"return OTHER;", "return NOTHING;"}, {": NOTHING;", ": BAD;"},
        {"(byte) v", "v"}, {"(short) v", "v"}, {"(int) v", "v"}};
    private static final Pattern NUMBER = Pattern.compile("(?<![\\w.])\\d+L?(?!\\w)");
    private static final Pattern STATEMENT = Pattern.compile(
        "^ +(?!return|private|final|int |boolean |static |case |long )[^;]*;$");
    private static final int SECONDS = 60;

    private record Mutant(int line, String from, String to) { }

    public static void main(String[] args) throws Exception {
        if (args.length == 1 && args[0].equals("run")) {
            for (Class<?> tests : SentencesTest.TESTS) {
                for (String failed : Boundary.failuresOf(tests)) {
                    System.out.println("MISSED " + tests.getName() + "." + failed);
                }
            }
            return;
        }
        Path source = Path.of(args[0]).resolve("src/main/java/OneTwoOneTwo.java");
        List<String> lines = Files.readAllLines(source);
        List<Mutant> mutants = mutantsOf(lines);
        System.out.println(mutants.size() + " mutants");
        Set<String> seeing = Collections.synchronizedSet(new TreeSet<>());
        List<String> unseen = Collections.synchronizedList(new ArrayList<>());
        IntStream.range(0, mutants.size()).parallel().forEach(i -> look(lines, mutants.get(i), seeing, unseen));
        Collections.sort(unseen);
        unseen.forEach(System.out::println);
        System.out.println(unseen.size() + " mutants are seen by no test");
        for (Class<?> tests : SentencesTest.TESTS) {
            Boundary.sentencesOf(tests).stream().map(m -> tests.getName() + "." + m.getName())
                .filter(name -> !seeing.contains(name)).forEach(name -> System.out.println("sees nothing: " + name));
        }
    }

    private static List<Mutant> mutantsOf(List<String> lines) {
        List<Mutant> mutants = new ArrayList<>();
        for (int i = 0; i < lines.size(); i++) {
            String line = lines.get(i);
            if (line.trim().startsWith("*") || line.trim().startsWith("/") || line.isBlank()) {
                continue;
            }
            for (String[] sign : SIGNS) {
                for (int at = line.indexOf(sign[0]); at >= 0; at = line.indexOf(sign[0], at + 1)) {
                    String to = line.substring(0, at) + sign[1] + line.substring(at + sign[0].length());
                    mutants.add(new Mutant(i, line, to));
                }
            }
            Matcher m = NUMBER.matcher(line);
            while (m.find()) {
                boolean wide = m.group().endsWith("L");
                long number = Long.parseLong(m.group().replace("L", ""));
                for (long other : new long[] {number + 1, number - 1}) {
                    String to = line.substring(0, m.start()) + other + (wide ? "L" : "") + line.substring(m.end());
                    mutants.add(new Mutant(i, line, to));
                }
            }
            if (STATEMENT.matcher(line).matches()) {
                mutants.add(new Mutant(i, line, ";"));
            }
        }
        return mutants;
    }

    private static void look(List<String> lines, Mutant mutant, Set<String> seeing, List<String> unseen) {
        try {
            Path folder = Files.createTempDirectory("mutant");
            List<String> broken = new ArrayList<>(lines);
            broken.set(mutant.line, mutant.to);
            Path file = folder.resolve("OneTwoOneTwo.java");
            Files.write(file, broken);
            Path log = folder.resolve("log");
            OutputStream nowhere = OutputStream.nullOutputStream();
            int code = ToolProvider.getSystemJavaCompiler().run(null, nowhere, nowhere, "-nowarn", "-d",
                folder.toString(), file.toString());
            if (code == 0 && !isSeen(folder, log, seeing)) {
                unseen.add(String.format("%5d: %s  =>  %s", mutant.line + 1, mutant.from.trim(), mutant.to.trim()));
            }
            try (var files = Files.list(folder)) {
                for (Path p : files.toList()) {
                    Files.delete(p);
                }
            }
            Files.delete(folder);
        } catch (IOException | InterruptedException e) {
            throw new IllegalStateException(e);
        }
    }

    private static boolean isSeen(Path folder, Path log, Set<String> seeing) throws IOException, InterruptedException {
        Process process = new ProcessBuilder("java", "-XX:+UseSerialGC", "-XX:TieredStopAtLevel=1", "-cp",
            folder + ":" + System.getProperty("java.class.path"), "Mutants", "run").redirectErrorStream(true)
            .redirectOutput(log.toFile()).start();
        boolean ended = process.waitFor(SECONDS, TimeUnit.SECONDS);
        if (!ended) {
            process.destroyForcibly().waitFor();
            return true;
        }
        boolean seen = false;
        for (String line : Files.readAllLines(log, StandardCharsets.ISO_8859_1)) {
            if (line.startsWith("MISSED ")) {
                seen = true;
                seeing.add(line.substring(7));
            }
        }
        return seen || process.exitValue() != 0;
    }
}
