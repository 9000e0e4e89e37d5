import java.io.IOException;
import java.lang.reflect.Method;
import java.nio.file.Files;
import java.nio.file.Path;
import java.util.Comparator;
import java.util.List;
import java.util.stream.Collectors;
import java.util.stream.Stream;

/** The example of README.md, done as README.md says, prints what README.md says. */
final class ReadmeTest {
    private ReadmeTest() {
    }

    /** The first block of this kind behind a place of the text. */
    private static String block(String text, String kind) {
        String opening = "```" + kind + "\n";
        int open = text.indexOf(opening);
        int close = text.indexOf("\n```", open + 1);
        if (open < 0 || close < 0) {
            Check.tell("README.md has no block of the kind " + kind);
            return "";
        }
        return text.substring(open + opening.length(), close + 1);
    }

    private static String printed(Path room, String commands)
            throws IOException, InterruptedException {
        Process process = new ProcessBuilder("sh", "-e", "-c", commands)
                .directory(room.toFile()).redirectError(ProcessBuilder.Redirect.INHERIT).start();
        process.getOutputStream().close();
        String text = new String(process.getInputStream().readAllBytes());
        Check.same("the commands of README.md end with", process.waitFor(), 0);
        return text;
    }

    private static void remove(Path room) throws IOException {
        List<Path> inside;
        try (Stream<Path> walk = Files.walk(room)) {
            inside = walk.sorted(Comparator.reverseOrder()).collect(Collectors.toList());
        }
        for (Path path : inside) {
            Files.delete(path);
        }
    }

    private static void example(String readme, Path main) throws IOException, InterruptedException {
        Path room = Files.createTempDirectory("readme");
        try {
            Files.copy(main, room.resolve(main.getFileName()));
            Files.writeString(room.resolve("Example.java"), block(readme, "java"));
            Check.same("the example of README.md", printed(room, block(readme, "sh")),
                    block(readme, "text"));
        } finally {
            remove(room);
        }
    }

    private static void namesEveryCall(String readme) {
        for (Method method : TwoScribes.class.getMethods()) {
            if (method.getDeclaringClass() == TwoScribes.class) {
                Check.same("README.md tells of " + method.getName(),
                        readme.contains("`" + method.getName() + "(") ? 1 : 0, 1);
            }
        }
    }

    public static void main(String[] args) throws IOException, InterruptedException {
        String readme = Files.readString(Path.of("README.md"));
        example(readme, Path.of(args.length > 0 ? args[0] : "src/main/java/TwoScribes.java"));
        namesEveryCall(readme);
        Check.end();
    }
}
