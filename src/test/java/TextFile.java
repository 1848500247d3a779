import java.io.IOException;
import java.io.UncheckedIOException;
import java.nio.file.Files;
import java.nio.file.Path;
import java.util.ArrayList;
import java.util.List;

/** The texts that tests read; .ci/run starts them in the folder of README.md. */
final class TextFile {
    static final Path DOCUMENT = Path.of("..", "shared", "DOC.md");
    static final Path README = Path.of("README.md");

    private static final String FENCE = "```";

    static List<String> linesOf(Path path) {
        try {
            return Files.readAllLines(path);
        } catch (IOException e) {
            throw new UncheckedIOException(e);
        }
    }

    /** The lines of all blocks of Java code, without the marks around them. */
    static List<String> javaIn(Path path) {
        List<String> code = new ArrayList<>();
        String block = "";
        for (String line : linesOf(path)) {
            if (line.startsWith(FENCE)) {
                block = block.isEmpty() ? line : "";
            } else if (block.equals(FENCE + "java")) {
                code.add(line);
            }
        }
        return code;
    }
}
