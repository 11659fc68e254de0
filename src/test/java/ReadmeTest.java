import java.io.IOException;
import java.nio.file.Files;
import java.nio.file.Path;
import java.util.Arrays;
import java.util.regex.Matcher;
import java.util.regex.Pattern;

/** The example in README.md answers what it says; run in the folder of README.md. */
public final class ReadmeTest {
    private static final Pattern NEW_ROOM = Pattern.compile("new ReadingRoom\\((\\d+)\\);");
    private static final Pattern CALL = Pattern.compile("room\\.(\\w+)\\(([-\\d, ]+)\\);\\s*// (-?\\d+):");

    public static void main(String[] args) throws IOException {
        String text = Files.readString(Path.of("README.md"));
        String example = text.substring(text.indexOf("```java"), text.lastIndexOf("```"));
        Matcher room = NEW_ROOM.matcher(example);
        Check.due("the example makes a room", room.find(), true);
        Check x = new Check("the example in README.md", Integer.parseInt(room.group(1)));
        Check.due("calls of the example that say their answers", answers(x, example), count(example, "room."));
        Check.end();
    }

    private static int answers(Check x, String example) {
        int made = 0;
        for (Matcher call = CALL.matcher(example); call.find(); made++) {
            x.due(Integer.parseInt(call.group(3)), call.group(1), numbers(call.group(2)));
        }
        return made;
    }

    private static int[] numbers(String arguments) {
        return Arrays.stream(arguments.split(", ")).mapToInt(Integer::parseInt).toArray();
    }

    private static int count(String text, String part) {
        return text.split(Pattern.quote(part), -1).length - 1;
    }
}
