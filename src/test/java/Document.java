import java.io.IOException;
import java.nio.file.Files;
import java.nio.file.Path;
import java.util.HashMap;
import java.util.Map;

/** The document's sections, so that a test can't quote a sentence that isn't there. */
final class Document {
    private static final Path PLACE = Path.of("../shared/DOC.md");

    private final Map<String, String> sections = new HashMap<>();

    /** Without the document beside the project nothing is compared. */
    Document() {
        if (Files.exists(PLACE)) {
            read();
        } else {
            System.out.println("no " + PLACE + ": the quotes are not compared with it");
        }
    }

    private void read() {
        try {
            for (String section : Files.readString(PLACE).split("(?m)^#+ ")) {
                int end = section.indexOf('\n');
                if (end >= 0) {
                    sections.put(section.substring(0, end), onOneLine(section.substring(end)));
                }
            }
        } catch (IOException e) {
            throw new IllegalStateException(e);
        }
    }

    boolean says(String heading, String quote) {
        return sections.isEmpty()
            || sections.containsKey(heading) && sections.get(heading).contains(onOneLine(quote));
    }

    String promise(int number) {
        String start = "Promise " + number + ":";
        for (String heading : sections.keySet()) {
            if (heading.startsWith(start)) {
                return heading;
            }
        }
        return start;
    }

    private static String onOneLine(String text) {
        return text.replaceAll("\\s+", " ").trim();
    }
}
