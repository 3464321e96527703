import java.nio.charset.StandardCharsets;
import java.util.NoSuchElementException;

/** What the tests share: feeding texts, and telling answers that are not as due. */
final class Due {
    private static int looked = 0;
    private static int wrong = 0;
    private static String sentence = "";

    private Due() {
    }

    /** The sentence of the document that the answers from here on are held against. */
    static void of(String itsSentence) {
        sentence = " [" + itsSentence + "]";
    }

    static void due(String what, long got, long want) {
        looked++;
        if (got != want) {
            wrong++;
            System.out.println(cut(what) + " answered " + got + ", due is " + want + sentence);
        }
    }

    /** A long text's beginning and end. */
    private static String cut(String what) {
        int length = what.length();
        return length <= 240 ? what : what.substring(0, 120) + " .. " + what.substring(length - 120);
    }

    static void due(String what, boolean got, boolean want) {
        due(what, got ? 1 : 0, want ? 1 : 0);
    }

    /** Several answers of one kind in a row: at 0, at 1, and so on. */
    interface Row {
        int at(int i);
    }

    static void row(String what, Row answers, int... wanted) {
        for (int i = 0; i < wanted.length; i++) {
            due(what + " at " + i, answers.at(i), wanted[i]);
        }
    }

    interface Call {
        int answer();
    }

    static void none(String what, Call call) {
        int thrown = 0;
        try {
            call.answer();
        } catch (NoSuchElementException e) {
            thrown = 1;
        }
        due(what + " throws NoSuchElementException", thrown, 1);
    }

    static int feed(Sleepers x, String text) {
        byte[] bytes = text.getBytes(StandardCharsets.ISO_8859_1);
        int signs = x.count(11);
        for (int from = 0; from < bytes.length; from += 24) {
            long[] three = new long[3];
            for (int i = 0; i < 24; i++) {
                int b = from + i < bytes.length ? bytes[from + i] & 255 : 0;
                three[i / 8] = three[i / 8] << 8 | b;
            }
            signs = x.feed(three[0], three[1], three[2]);
        }
        return signs;
    }

    static int program(Sleepers x, String text) {
        feed(x, text);
        return x.program();
    }

    static Sleepers with(String text) {
        Sleepers x = new Sleepers();
        due("program of " + text, program(x, text), 0);
        return x;
    }

    static int named(Sleepers x, String text, int routine) {
        feed(x, text);
        return x.named(routine);
    }

    /** A text with a fault, whose place stands behind the sign ^. */
    static void fault(int kind, String marked) {
        int place = marked.indexOf('^');
        String text = marked.substring(0, place) + marked.substring(place + 1);
        due("program of " + marked, program(new Sleepers(), text), kind + 16 * place);
    }

    static void good(String text) {
        due("program of " + text, program(new Sleepers(), text), 0);
    }

    static String times(int n, String text) {
        return text.repeat(n);
    }

    static void end() {
        System.out.println(looked + " answers looked at, " + wrong + " not as due");
        if (wrong != 0) {
            System.exit(1);
        }
    }
}
