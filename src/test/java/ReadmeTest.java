import java.io.IOException;
import java.net.URL;
import java.net.URLClassLoader;
import java.nio.file.Files;
import java.nio.file.Path;
import java.util.ArrayList;
import java.util.List;
import java.util.regex.Matcher;
import java.util.regex.Pattern;
import javax.tools.ToolProvider;

/** README.md: its example compiles, and each call in it answers as the remark behind it says. */
public final class ReadmeTest {
    private static final Pattern ANSWERED = Pattern.compile("(duel\\..*\\)); *// (-?\\d+): .*");

    private static final List<String> calls = new ArrayList<>();
    private static final List<Integer> due = new ArrayList<>();

    public static void main(String[] args) throws Exception {
        List<String> example = exampleOf(Path.of("README.md"));
        int[] got = run(programOf(example));
        Check.yes("README.md tells of some answers", !calls.isEmpty());
        for (int i = 0; i < got.length; i++) {
            Check.same("README.md: " + calls.get(i), got[i], due.get(i));
        }
        for (String name : List.of("move", "patch", "cancel", "begin", "play", "of", "again", "goesOn", "winner",
                "advantage", "punish", "most", "mostAt")) {
            Check.yes("README.md shows " + name,
                    example.stream().anyMatch(line -> line.contains("duel." + name + "(")));
        }
        Check.end("ReadmeTest");
    }

    private static List<String> exampleOf(Path file) throws IOException {
        List<String> lines = Files.readAllLines(file);
        int from = lines.indexOf("```java") + 1;
        return lines.subList(from, from + lines.subList(from, lines.size()).indexOf("```"));
    }

    /** The example, with what its calls answer put into a row. */
    private static String programOf(List<String> example) {
        StringBuilder body = new StringBuilder();
        for (String line : example) {
            Matcher answered = ANSWERED.matcher(line);
            if (answered.matches()) {
                body.append("got[").append(calls.size()).append("] = ").append(answered.group(1)).append(";\n");
                calls.add(answered.group(1));
                due.add(Integer.valueOf(answered.group(2)));
            } else {
                body.append(line).append('\n');
            }
        }
        return "public final class ReadmeExample { public static int[] run() { int[] got = new int[" + calls.size()
                + "];\n" + body + "return got; } }\n";
    }

    private static int[] run(String program) throws Exception {
        Path folder = Files.createTempDirectory("readme");
        Path source = folder.resolve("ReadmeExample.java");
        Path compiled = folder.resolve("ReadmeExample.class");
        try {
            Files.writeString(source, program);
            int failed = ToolProvider.getSystemJavaCompiler().run(null, null, null,
                    "-cp", System.getProperty("java.class.path"), "-d", folder.toString(), source.toString());
            Check.same("the example of README.md compiles", failed, 0);
            if (failed != 0) {
                return new int[0];
            }
            try (URLClassLoader loader = new URLClassLoader(new URL[] {folder.toUri().toURL()})) {
                return (int[]) loader.loadClass("ReadmeExample").getMethod("run").invoke(null);
            }
        } finally {
            Files.deleteIfExists(source);
            Files.deleteIfExists(compiled);
            Files.deleteIfExists(folder);
        }
    }
}
