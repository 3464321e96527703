/** What tests of tasks share: tasks begin and run, and what came of it is looked at. */
class Runs {
    static void begin(Sleepers x, int routine, int wanted) {
        Due.due("begin(" + routine + ")", x.begin(routine, 0, 0, 0, 0), wanted);
    }

    static void row(Sleepers x, int... wanted) {
        Due.due("in the row", x.count(3), wanted.length);
        Due.row("row", x::row, wanted);
    }

    static void puts(Sleepers x, int... wanted) {
        Due.due("puts", x.count(5), wanted.length);
        Due.row("put", i -> x.put(i, 1), wanted);
    }

    static void task(Sleepers x, int t, int... wanted) {
        Due.row("task " + t, k -> x.task(t, k), wanted);
    }

    /** A routine's only task, run to its end or its first wait that does not come. */
    static Sleepers run(String text) {
        Sleepers x = Due.with(text);
        begin(x, 0, 0);
        x.rounds(400);
        return x;
    }
}
