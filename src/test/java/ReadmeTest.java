import java.io.IOException;
import java.nio.file.Files;
import java.nio.file.Path;
import java.util.regex.Matcher;
import java.util.regex.Pattern;

/** The example in README.md: its calls answer what stands beside them there. */
public final class ReadmeTest {
    private static final Pattern CALL =
        Pattern.compile("tags\\.(\\w+)\\((?:(\\w+)(?:, (\\w+))?)?\\);\\s*// (-?\\w+)");

    public static void main(String[] args) {
        Check.run(ReadmeTest.class);
    }

    static void theExampleAnswersAsItTells() throws IOException {
        NestedTags tags = new NestedTags();
        int calls = 0;
        for (String line : Files.readAllLines(Path.of("README.md"))) {
            Matcher m = CALL.matcher(line);
            if (m.find()) {
                Check.due(line, String.valueOf(answer(tags, m)), m.group(4));
                calls++;
            }
        }
        Check.due("that the example was found", calls >= 12, true);
    }

    private static Object answer(NestedTags tags, Matcher m) {
        return switch (m.group(1)) {
            case "put" -> tags.put(Long.decode(m.group(2).replace("L", "")), number(m.group(3)));
            case "read" -> tags.read();
            case "place" -> tags.place();
            case "piece" -> tags.piece(number(m.group(2)), number(m.group(3)));
            case "byteOf" -> tags.byteOf(number(m.group(2)));
            case "count" -> tags.count(number(m.group(2)));
            default -> "nothing, since there is no " + m.group(1);
        };
    }

    private static int number(String digits) {
        return Integer.parseInt(digits);
    }
}
