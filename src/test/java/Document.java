import java.io.IOException;
import java.io.UncheckedIOException;
import java.nio.file.Files;
import java.nio.file.Path;
import java.util.ArrayList;
import java.util.List;

/** The document, and the other texts that tests look into. */
final class Document {
    private Document() {
    }

    static String all() {
        return textOf("../shared/DOC.md");
    }

    static String textOf(String path) {
        try {
            return Files.readString(Path.of(path));
        } catch (IOException e) {
            throw new UncheckedIOException(e);
        }
    }

    /** The lines of the section "The public face" that tell a member of the class. */
    static List<String> faceLines() {
        List<String> lines = new ArrayList<>();
        for (String line : between(all(), "```java\n", "```").split("\n")) {
            if (line.startsWith("    public ")) {
                lines.add(line.trim());
            }
        }
        return lines;
    }

    /** The text between two marks, or none if they are not there. */
    static String between(String text, String from, String to) {
        int start = text.indexOf(from);
        int end = start < 0 ? -1 : text.indexOf(to, start + from.length());
        return end < 0 ? "" : text.substring(start + from.length(), end);
    }
}
