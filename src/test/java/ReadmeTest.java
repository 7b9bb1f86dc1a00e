import java.nio.charset.StandardCharsets;
import java.nio.file.Files;
import java.nio.file.Path;
import java.util.ArrayList;
import java.util.List;

/** The example in README.md prints what it says there, by the commands there; its command for all tests stands. */
public final class ReadmeTest {
    private static final Path CLASS = Path.of("src/main/java/Graphline.java");

    public static void main(String[] args) throws Exception {
        example();
        allTests();
        Due.end();
    }

    private static void example() throws Exception {
        List<String> example = block("```java");
        Path place = Files.createTempDirectory("readme");
        try {
            Files.createDirectories(place.resolve(CLASS).getParent());
            Files.copy(CLASS, place.resolve(CLASS));
            Files.write(place.resolve("Example.java"), example);
            List<String> printed = new ArrayList<>();
            for (String command : block("```sh")) {
                printed.addAll(run(place, command));
            }
            Due.same(said(example), printed);
        } finally {
            clear(place);
        }
    }

    private static void allTests() throws Exception {
        List<String> lines = Files.readAllLines(Path.of("README.md"));
        Due.same(true, lines.contains("    .ci/run"));
        Due.same(true, Files.isExecutable(Path.of(".ci/run")));
        String readme = String.join(" ", lines);
        for (String name : Path.of("src/test/java").toFile().list()) {
            String named = "`" + name.replace(".java", "") + "`";
            Due.same(named + " is told: true", named + " is told: " + readme.contains(named));
        }
    }

    /** The lines of the one block that begins so. */
    private static List<String> block(String begin) throws Exception {
        List<String> out = new ArrayList<>();
        boolean isInside = false;
        int blocks = 0;
        for (String line : Files.readAllLines(Path.of("README.md"))) {
            if (line.equals(begin)) {
                isInside = true;
                blocks++;
            } else if (line.equals("```")) {
                isInside = false;
            } else if (isInside) {
                out.add(line);
            }
        }
        Due.same(begin + " blocks: 1", begin + " blocks: " + blocks);
        return out;
    }

    /** Each line that prints says behind its last // what. */
    private static List<String> said(List<String> example) {
        List<String> out = new ArrayList<>();
        for (String line : example) {
            if (line.contains("System.out.println(")) {
                out.add(line.substring(line.lastIndexOf("// ") + 3));
            }
        }
        Due.same(false, out.isEmpty());
        return out;
    }

    private static List<String> run(Path place, String command) throws Exception {
        Process process = new ProcessBuilder(command.split(" ")).directory(place.toFile())
            .redirectError(ProcessBuilder.Redirect.INHERIT).start();
        process.getOutputStream().close();
        String printed = new String(process.getInputStream().readAllBytes(), StandardCharsets.UTF_8);
        Due.same(command + " ends with 0", command + " ends with " + process.waitFor());
        return printed.lines().toList();
    }

    private static void clear(Path place) throws Exception {
        List<Path> inside;
        try (java.util.stream.Stream<Path> all = Files.walk(place)) {
            inside = new ArrayList<>(all.toList());
        }
        for (int i = inside.size() - 1; i >= 0; i--) {
            Files.delete(inside.get(i));
        }
    }
}
