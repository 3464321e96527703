import java.util.NoSuchElementException;
import java.util.Random;

/** Calls with any numbers in any state: none may throw but those that the document names, and the same calls answer the same. */
public final class WildCalls {
    static final String[] PIECES = {"routine", "wait", "put", "if", "else", "while", "break", "continue", "return", "fail",
        "try", "on", "finish", "letter", "tick", "yield", "child", "both", "first", "within", "clock",
        "a", "b", "x", "0", "1", "7", "9", "{", "}", "(", ")", ",", ";", "=", "<", "+", "-", "*", "/", "%", "!", "abcdefghijklm", "1234567890"};

    static final String[] TEXTS = {
        "routine a ( x ) { while 1 { y = wait both ( letter 1 , letter 0 ) ; put x * y ; } }",
        "routine a ( x ) { while 1 { try { y = wait first ( letter 1 , tick x , child b ( y ) ) ; put y / x ; } on e { wait yield ; } finish { x = x + 1 ; wait within 2 both ( letter 2 , tick 1 ) ; } } }"
            + " routine b ( n ) { if n < 3 { z = wait both ( child b ( n + 1 ) , letter 3 ) ; } return n ; }",
        "routine a ( x ) { wait both ( child a ( x + 1 ) , child a ( x / ( 5 - x ) ) ) ; }",
        "routine a ( x ) { try { wait child a ( x + 1 ) ; } on e { put e ; } finish { try { wait tick 1 ; } finish { fail 3 ; } } }",
        "routine a ( x ) { while 1 { } }",
        "routine a ( ) { put " + "---------x+".repeat(300) + "1 ; }",
        "routine a ( ) { wait " + group(4) + " ; }",
    };

    static String group(int deep) {
        String inner = deep == 0 ? "tick 1" : group(deep - 1);
        return "first(" + inner + "," + inner + "," + inner + ")";
    }

    public static void main(String[] args) {
        for (int seed = 0; seed < 400; seed++) {
            play(seed);
        }
        Due.end();
    }

    static void play(int seed) {
        Random random = new Random(seed);
        Sleepers x = new Sleepers();
        Sleepers twin = new Sleepers();
        String text = seed % 2 == 0 ? TEXTS[seed / 2 % TEXTS.length] : pieces(random);
        Due.program(x, text);
        Due.program(twin, text);
        for (int i = 0; i < 300; i++) {
            String name = Calls.NAMES[random.nextInt(Calls.NAMES.length)];
            long[] numbers = new long[5];
            for (int k = 0; k < 5; k++) {
                numbers[k] = number(random);
            }
            if (name.equals("program") && random.nextInt(10) != 0) {
                name = "turn";
            }
            Due.due("seed " + seed + " call " + i + " " + name, outcome(x, name, numbers), outcome(twin, name, numbers));
        }
    }

    static long outcome(Sleepers x, String name, long[] numbers) {
        try {
            return Calls.answer(x, name, numbers);
        } catch (NoSuchElementException e) {
            boolean may = name.equals("routine") || name.equals("task") || name.equals("cell");
            Due.due(name + " may throw", may, true);
            return Long.MIN_VALUE;
        } catch (RuntimeException e) {
            Due.due(name + " threw " + e, 1, 0);
            return Long.MIN_VALUE;
        }
    }

    static String pieces(Random random) {
        StringBuilder text = new StringBuilder();
        for (int i = random.nextInt(60); i >= 0; i--) {
            text.append(PIECES[random.nextInt(PIECES.length)]).append(random.nextInt(3) == 0 ? "" : " ");
        }
        return text.toString();
    }

    static long number(Random random) {
        switch (random.nextInt(8)) {
            case 0: return random.nextLong();
            case 1: return random.nextInt();
            case 2: return Integer.MAX_VALUE;
            case 3: return Integer.MIN_VALUE;
            case 4: return -1;
            default: return random.nextInt(9);
        }
    }
}
