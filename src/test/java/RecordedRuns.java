import java.io.IOException;
import java.nio.file.Files;
import java.nio.file.Path;
import java.util.NoSuchElementException;

/** Runs of calls whose answers other programs, written from the document alone, have given. */
public final class RecordedRuns {
    public static void main(String[] args) throws IOException {
        look(Path.of("src/test/runs/treewalker.txt"));
        look(Path.of("src/test/runs/generators.txt"));
        Due.end();
    }

    private static void look(Path recorded) throws IOException {
        Sleepers x = null;
        int run = 0;
        for (String line : Files.readAllLines(recorded)) {
            if (line.equals("new")) {
                x = new Sleepers();
                run++;
                continue;
            }
            String[] parts = line.split(" = ");
            String got = answer(x, parts[0]);
            if (!got.equals(parts[1])) {
                System.out.println(recorded + ", run " + run + ": " + line + ", answered " + got);
            }
            Due.due("run " + run + " as recorded", got.equals(parts[1]), true);
        }
        Due.due("runs in " + recorded, run > 0, true);
    }

    private static String answer(Sleepers x, String call) {
        try {
            return Long.toString(Calls.answer(x, call.split(" ")));
        } catch (NoSuchElementException e) {
            return "throws";
        }
    }
}
