import java.io.IOException;
import java.lang.reflect.Method;
import java.lang.reflect.Modifier;
import java.nio.file.Files;
import java.nio.file.Path;

/** README.md: that its example answers what it says, and that it tells of each method and error. */
public final class ReadmeTests {
    private static final Check CHECK = new Check();

    public static void main(String[] args) throws IOException {
        String page = Files.readString(Path.of("README.md"));
        example(page);
        methods(page);
        errors(page);
        CHECK.finish();
    }

    private static void example(String page) {
        NestedCodes codes = new NestedCodes();
        says(page, "new NestedCodes();   // n = 8, k = 3, b = 7, d = 3");
        int[] numbers = {8, 3, 6, 7, 3};
        for (int what = 0; what < numbers.length; what++) {
            CHECK.due("count(" + what + ")", codes.count(what), numbers[what]);
        }
        says(page, "codes.send(291); ");
        codes.send(291);
        says(page, "codes.flip(0, 3); ");
        codes.flip(0, 3);
        CHECK.due("wrong bits", codes.count(8), 2);
        says(page, "codes.lose(5, 1); ");
        codes.lose(5, 1);
        CHECK.due("lost blocks", codes.count(7), 1);
        says(page, "codes.decode();            // 291");
        CHECK.due("decode()", codes.decode(), 291);
        says(page, "codes.decidingTrial();       // 0:");
        CHECK.due("decidingTrial()", codes.decidingTrial(), 0);
        says(page, "codes.undo(); ");
        codes.undo();
        CHECK.due("lost blocks after undo", codes.count(7), 0);
    }

    private static void says(String page, String words) {
        CHECK.that("README.md says " + words, page.contains(words));
    }

    private static void methods(String page) {
        for (Method method : NestedCodes.class.getDeclaredMethods()) {
            if (Modifier.isPublic(method.getModifiers())) {
                says(page, "| `" + method.getName() + "(");
            }
        }
    }

    private static void errors(String page) {
        says(page, "| `INVALID_ARGUMENT` | " + NestedCodes.INVALID_ARGUMENT + " |");
        says(page, "| `NOT_POSSIBLE` | " + NestedCodes.NOT_POSSIBLE + " |");
        says(page, "| `LIMIT_REACHED` | " + NestedCodes.LIMIT_REACHED + " |");
        says(page, "| `NOT_FOUND` | " + NestedCodes.NOT_FOUND + " |");
    }
}
