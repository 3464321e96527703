/** Calls by their names. */
final class Calls {
    static final String[] NAMES = {"feed", "program", "named", "routine", "live", "next", "begin", "turn", "rounds",
        "letter", "tick", "cancel", "task", "cell", "row", "put", "lost", "box", "stands", "count"};

    private Calls() {
    }

    /** A call's name and its numbers, as texts: its answer, a boolean's 1 or 0. */
    static long answer(Sleepers x, String... call) {
        long[] wide = new long[5];
        for (int i = 1; i < call.length; i++) {
            wide[i - 1] = Long.parseLong(call[i]);
        }
        return answer(x, call[0], wide);
    }

    static long answer(Sleepers x, String name, long[] wide) {
        int a = (int) wide[0];
        int b = (int) wide[1];
        int c = (int) wide[2];
        switch (name) {
            case "feed": return x.feed(wide[0], wide[1], wide[2]);
            case "program": return x.program();
            case "named": return x.named(a);
            case "routine": return x.routine(a, b);
            case "live": return x.live(a, b, c);
            case "next": return x.next(a, b, c);
            case "begin": return x.begin(a, b, c, (int) wide[3], (int) wide[4]);
            case "turn": return x.turn(a);
            case "rounds": return x.rounds(a);
            case "letter": return x.letter(a, b);
            case "tick": return x.tick(a);
            case "cancel": return x.cancel(a) ? 1 : 0;
            case "task": return x.task(a, b);
            case "cell": return x.cell(a, b);
            case "row": return x.row(a);
            case "put": return x.put(a, b);
            case "lost": return x.lost(a, b);
            case "box": return x.box(a, b);
            case "stands": return x.stands(a, b);
            case "count": return x.count(a);
            default: throw new IllegalArgumentException(name);
        }
    }
}
