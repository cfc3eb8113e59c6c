import java.io.IOException;
import java.nio.file.Files;
import java.nio.file.Path;
import java.util.regex.Matcher;
import java.util.regex.Pattern;

/** README.md shows calls with their answers: they are asked here in its order. */
public final class ReadmeTest {
    private static final Pattern CALL = Pattern.compile("(?m)^rock\\.(\\w+)\\(([-0-9, ]*)\\); *// (-?\\d+)(:.*)?$");
    private static final Check check = new Check();

    public static void main(String[] args) throws IOException, ReflectiveOperationException {
        String readme = Files.readString(Path.of("README.md"));
        LetteredRock rock = new LetteredRock();
        Matcher shown = CALL.matcher(readme);
        int calls = 0;
        while (shown.find()) {
            calls++;
            long got = Calls.answer(rock, shown.group(1), numbers(shown.group(2)));
            check.due("README.md: " + shown.group(1) + "(" + shown.group(2) + ")", got, Long.parseLong(shown.group(3)));
        }
        check.due("README.md: calls with an answer", calls, readme.split("\nrock\\.").length - 1);
        check.due("README.md: shows calls", calls > 0 ? 1 : 0, 1);
        check.end();
    }

    private static int[] numbers(String list) {
        String[] parts = list.split(", *");
        int[] numbers = new int[parts.length];
        for (int k = 0; k < parts.length; k++) {
            numbers[k] = Integer.parseInt(parts[k].trim());
        }
        return numbers;
    }
}
