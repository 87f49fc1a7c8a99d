import java.io.IOException;
import java.net.URL;
import java.net.URLClassLoader;
import java.nio.file.Files;
import java.nio.file.Path;
import java.util.List;
import java.util.regex.Matcher;
import java.util.regex.Pattern;

/** Runs README.md's blocks of Java: each line with an answer behind "// =" must answer it. */
final class ReadmeTest {
    private static final Pattern ANSWERED = Pattern.compile("(\\S.*);\\s*// = (-?\\d+)\\b.*");

    private ReadmeTest() {
    }

    static void run(String path) throws Exception {
        StringBuilder body = new StringBuilder();
        int answered = 0;
        boolean inside = false;
        for (String line : Files.readAllLines(Path.of(path))) {
            Matcher answer = ANSWERED.matcher(line);
            if (line.startsWith("```")) {
                inside = line.equals("```java");
            } else if (inside && answer.matches()) {
                answered++;
                body.append("all.add(new String[] {").append(quoted(line)).append(", String.valueOf(").append(answer.group(1))
                    .append("), \"").append(answer.group(2)).append("\"});\n");
            } else if (inside) {
                body.append(line).append('\n');
            }
        }
        Due.holds("README.md shows " + answered + " answers", answered > 40);
        for (String[] one : answers(body.toString())) {
            Due.same("README.md: " + one[0].strip(), one[1], one[2]);
        }
    }

    private static String quoted(String line) {
        return '"' + line.replace("\\", "\\\\").replace("\"", "\\\"") + '"';
    }

    /** Each answered line, what it answered, and what it says. */
    @SuppressWarnings("unchecked")
    private static List<String[]> answers(String body) throws Exception {
        String source = "public class Readme implements java.util.function.Supplier<java.util.List<String[]>> {\n"
            + "public java.util.List<String[]> get() {\n"
            + "java.util.List<String[]> all = new java.util.ArrayList<>();\n" + body + "return all;\n}\n}\n";
        Path out = Files.createTempDirectory("readme");
        try {
            compile(source, out);
            try (URLClassLoader loader = new URLClassLoader(new URL[] {out.toUri().toURL()}, ReadmeTest.class.getClassLoader())) {
                Object made = loader.loadClass("Readme").getDeclaredConstructor().newInstance();
                return ((java.util.function.Supplier<List<String[]>>) made).get();
            }
        } finally {
            Files.deleteIfExists(out.resolve("Readme.java"));
            Files.deleteIfExists(out.resolve("Readme.class"));
            Files.delete(out);
        }
    }

    private static void compile(String source, Path out) throws IOException, InterruptedException {
        Path file = Files.writeString(out.resolve("Readme.java"), source);
        Process javac = new ProcessBuilder("javac", "-d", out.toString(), "-cp", System.getProperty("java.class.path"),
            file.toString()).inheritIO().start();
        Due.same("README.md's blocks compile", javac.waitFor(), 0);
    }
}
