import java.io.IOException;
import java.nio.file.Files;
import java.nio.file.Path;
import java.util.NoSuchElementException;
import java.util.regex.Matcher;
import java.util.regex.Pattern;

/** The calls that README.md tells answer as it tells. */
public final class ReadmeCalls {
    private static final Pattern TEXT = Pattern.compile("feed\\(x, \"(.*)\"\\);");
    private static final Pattern CALL = Pattern.compile("x\\.(\\w+)\\((.*?)\\); +// (throws \\w+|true|false|-?\\d+).*");

    private static Sleepers x;
    private static int calls;

    public static void main(String[] args) throws IOException {
        for (String line : Files.readAllLines(Path.of("README.md"))) {
            Matcher text = TEXT.matcher(line);
            Matcher call = CALL.matcher(line);
            if (line.startsWith("Sleepers x = new Sleepers();")) {
                x = new Sleepers();
            } else if (text.matches()) {
                Due.feed(x, text.group(1));
            } else if (call.matches()) {
                calls++;
                Due.due(line, answer(call.group(1), call.group(2)).equals(wanted(call.group(3))), true);
            } else {
                // A call that is not understood would not be looked at.
                Due.due("not a call with its answer: " + line, line.startsWith("x."), false);
            }
        }
        Due.due("README.md tells of calls", calls > 40, true);
        Due.end();
    }

    private static String answer(String name, String numbers) {
        long[] wide = new long[5];
        String[] given = numbers.isEmpty() ? new String[0] : numbers.split(", *");
        for (int i = 0; i < given.length; i++) {
            wide[i] = Long.parseLong(given[i]);
        }
        try {
            return Long.toString(Calls.answer(x, name, wide));
        } catch (NoSuchElementException e) {
            return "throws NoSuchElementException";
        }
    }

    private static String wanted(String told) {
        return told.equals("true") ? "1" : told.equals("false") ? "0" : told;
    }
}
