import java.io.IOException;
import java.nio.file.Files;
import java.nio.file.Path;
import java.util.regex.Matcher;
import java.util.regex.Pattern;

/** The examples of README.md answer what it says behind each call. */
public final class ReadmeTest {
    private static final Check CHECK = new Check("ReadmeTest");
    private static final Pattern CALL = Pattern.compile("^ {4}x\\.(\\w+)\\(([^)]*)\\);\\s*// (-?\\w+).*$");
    private static final String MADE = "    ConfettiMinutes x = new ConfettiMinutes();";

    public static void main(String[] args) throws IOException {
        ConfettiMinutes x = null;
        int number = 0;
        for (String line : Files.readAllLines(Path.of("README.md"))) {
            number++;
            if (line.equals(MADE)) {
                x = new ConfettiMinutes();
            } else if (line.startsWith("    x.")) {
                tryLine(x, number, line);
            }
        }
        CHECK.end();
    }

    private static void tryLine(ConfettiMinutes x, int number, String line) {
        Matcher m = CALL.matcher(line);
        if (x == null || !m.matches() || !Face.has(m.group(1))) {
            CHECK.fault("line " + number + " is no call with its answer: " + line);
            return;
        }
        String[] words = m.group(2).isEmpty() ? new String[0] : m.group(2).split(", ");
        int[] numbers = new int[words.length];
        for (int i = 0; i < words.length; i++) {
            numbers[i] = Integer.decode(words[i]);
        }
        String got = Face.answer(x, m.group(1), numbers);
        CHECK.due("line " + number + " (" + line.trim() + "), which answers " + got + ", says so", got.equals(m.group(3)), true);
    }
}
