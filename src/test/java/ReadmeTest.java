import java.io.ByteArrayOutputStream;
import java.io.IOException;
import java.io.InputStream;
import java.nio.file.Files;
import java.nio.file.Path;
import java.util.Comparator;
import java.util.List;
import java.util.stream.Collectors;
import java.util.stream.Stream;

/** The example in README.md compiles as it stands there and answers what is told there. */
public final class ReadmeTest {
    private static final Checks CHECKS = new Checks("ReadmeTest");

    public static void main(String[] args) throws IOException, InterruptedException {
        String readme = Files.readString(Path.of("README.md"));
        Path room = Files.createTempDirectory("readme");
        try {
            example(readme, room);
        } finally {
            delete(room);
        }
        CHECKS.finish();
    }

    private static void example(String readme, Path room) throws IOException, InterruptedException {
        Path source = room.resolve("Example.java");
        Files.writeString(source, block(readme, "java"));
        String compiled = output("javac", "-Xlint:all", "-Werror", "-d", room.toString(),
                Path.of("src", "main", "java", "BorderHouse.java").toString(), source.toString());
        CHECKS.due("the example compiles", "ended with 0:\n", () -> compiled);
        String answered = output("java", "-cp", room.toString(), "Example");
        CHECKS.due("the example answers", "ended with 0:\n" + block(readme, "text"), () -> answered);
    }

    /** What stands in the only block of that kind, each line with its end. */
    private static String block(String readme, String kind) {
        List<String> parts = List.of(readme.split("(?m)^```" + kind + "$\n", -1));
        CHECKS.due("README.md has one block of " + kind, 2, parts::size);
        return parts.size() == 2 ? parts.get(1).split("(?m)^```$", -1)[0] : "";
    }

    private static String output(String... command) throws IOException, InterruptedException {
        Process process = new ProcessBuilder(command).redirectErrorStream(true).start();
        ByteArrayOutputStream told = new ByteArrayOutputStream();
        try (InputStream from = process.getInputStream()) {
            from.transferTo(told);
        }
        return "ended with " + process.waitFor() + ":\n" + told.toString().replace("\r\n", "\n");
    }

    private static void delete(Path room) throws IOException {
        List<Path> all;
        try (Stream<Path> walk = Files.walk(room)) {
            all = walk.sorted(Comparator.reverseOrder()).collect(Collectors.toList());
        }
        for (Path each : all) {
            Files.delete(each);
        }
    }
}
