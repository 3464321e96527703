import java.io.IOException;
import java.nio.file.Files;
import java.nio.file.Path;
import java.util.NoSuchElementException;

/** Runs of calls whose answers a second program, written from the document alone, has given. */
public final class RecordedRuns {
    public static void main(String[] args) throws IOException {
        Sleepers x = null;
        int run = 0;
        for (String line : Files.readAllLines(Path.of("src/test/runs/recorded.txt"))) {
            if (line.equals("new")) {
                x = new Sleepers();
                run++;
                continue;
            }
            String[] parts = line.split(" = ");
            String got;
            try {
                got = Long.toString(Calls.answer(x, parts[0].split(" ")));
            } catch (NoSuchElementException e) {
                got = "throws";
            }
            if (!got.equals(parts[1])) {
                System.out.println("run " + run + ": " + line + ", answered " + got);
            }
            Due.due("run " + run + " as recorded", got.equals(parts[1]), true);
        }
        Due.end();
    }
}
