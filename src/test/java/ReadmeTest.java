import java.io.IOException;
import java.net.URL;
import java.net.URLClassLoader;
import java.nio.file.Files;
import java.nio.file.Path;
import java.util.ArrayList;
import java.util.List;
import java.util.regex.Matcher;
import java.util.regex.Pattern;
import java.util.stream.Collectors;
import java.util.stream.Stream;
import javax.tools.JavaCompiler;
import javax.tools.ToolProvider;

/**
 * The program that README.md shows: what its pieces tell behind each call is what the class answers. The pieces
 * are one program; those that begin with "static" are its functions.
 */
public final class ReadmeTest {
    private static final Pattern PIECE = Pattern.compile("```java\n(.*?)```", Pattern.DOTALL);
    private static final Pattern TOLD = Pattern.compile("(\\S.*\\));\\s+// (-?\\d+|[A-Z]+)\\b.*");
    private static final Pattern CALL = Pattern.compile("^x\\.(\\w+)\\(");
    private static final Checks c = new Checks("ReadmeTest");

    public static void main(String[] args) throws Exception {
        String readme = Files.readString(Path.of("README.md"));
        List<String> functions = new ArrayList<>();
        List<String> lines = new ArrayList<>();
        for (Matcher piece = PIECE.matcher(readme); piece.find();) {
            if (piece.group(1).startsWith("static ")) {
                functions.add(piece.group(1));
            } else {
                lines.addAll(List.of(piece.group(1).split("\n")));
            }
        }
        for (Object[] told : answers(program(functions, lines))) {
            c.due("README.md: " + told[0], (Long) told[1], (Long) told[2]);
        }
        c.due("calls of README.md that tell no answer", untold(lines), 0);
        tests(readme);
        c.end();
    }

    /** Each line that makes a call of x by itself tells its answer. */
    private static long untold(List<String> lines) {
        return lines.stream().filter(line -> CALL.matcher(line).find() && !TOLD.matcher(line).matches()).count();
    }

    private static String program(List<String> functions, List<String> lines) {
        StringBuilder s = new StringBuilder("public final class ReadmeUse {\n");
        functions.forEach(s::append);
        s.append("public static java.util.List<Object[]> answers() {\n");
        s.append("java.util.List<Object[]> all = new java.util.ArrayList<>();\n");
        for (String line : lines) {
            Matcher told = TOLD.matcher(line);
            if (told.matches()) {
                String due = told.group(2).matches("[A-Z]+") ? "SlabTurn." + told.group(2) : told.group(2);
                s.append("all.add(new Object[] {\"").append(told.group(1)).append("\", (long) ").append(told.group(1));
                s.append(", (long) ").append(due).append("});\n");
            } else {
                s.append(line).append("\n");
            }
        }
        return s.append("return all;\n}\n}\n").toString();
    }

    private static List<Object[]> answers(String program) throws Exception {
        Path dir = Files.createTempDirectory("readme");
        Path file = dir.resolve("ReadmeUse.java");
        try {
            Files.writeString(file, program);
            JavaCompiler javac = ToolProvider.getSystemJavaCompiler();
            String path = System.getProperty("java.class.path");
            int code = javac.run(null, null, System.err, "-cp", path, "-d", dir.toString(), file.toString());
            c.due("README.md's program, compiled", code, 0);
            return code == 0 ? run(dir) : List.of();
        } finally {
            Files.deleteIfExists(file);
            Files.deleteIfExists(dir.resolve("ReadmeUse.class"));
            Files.deleteIfExists(dir);
        }
    }

    private static List<Object[]> run(Path dir) throws Exception {
        List<Object[]> all = new ArrayList<>();
        try (URLClassLoader loader = new URLClassLoader(new URL[] {dir.toUri().toURL()})) {
            Object told = loader.loadClass("ReadmeUse").getMethod("answers").invoke(null);
            for (Object one : (List<?>) told) {
                all.add((Object[]) one);
            }
        }
        return all;
    }

    /** README.md has a word on every test that there is, and on none that there is not. */
    private static void tests(String readme) throws IOException {
        try (Stream<Path> files = Files.list(Path.of("src/test/java"))) {
            String there = files.map(f -> f.getFileName().toString()).filter(f -> f.endsWith("Test.java"))
                .map(f -> f.substring(0, f.length() - 5)).sorted().collect(Collectors.joining(" "));
            String told = readme.lines().filter(line -> line.startsWith("| `")).map(line -> line.split("\\|")[1])
                .flatMap(cell -> Pattern.compile("\\w+Test\\b").matcher(cell).results().map(r -> r.group())).sorted()
                .collect(Collectors.joining(" "));
            c.due("README.md tells of these tests: " + told + ", and there are: " + there, told.equals(there) ? 1 : 0, 1);
        }
    }
}
