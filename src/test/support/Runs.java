/** What tests of tasks share: tasks begin and run, and what came of it is looked at. */
class Runs {
    static void begin(Sleepers x, int routine, int wanted) {
        Due.due("begin(" + routine + ")", x.begin(routine, 0, 0, 0, 0), wanted);
    }

    static void row(Sleepers x, int... wanted) {
        Due.due("in the row", x.count(3), wanted.length);
        Due.row("row", x::row, wanted);
    }

    static void puts(Sleepers x, int... wanted) {
        Due.due("puts", x.count(5), wanted.length);
        Due.row("put", i -> x.put(i, 1), wanted);
    }

    static void task(Sleepers x, int t, int... wanted) {
        Due.row("task " + t, k -> x.task(t, k), wanted);
    }

    /** A routine's only task, run to its end or its first wait that does not come. */
    static Sleepers run(String text) {
        Sleepers x = Due.with(text);
        begin(x, 0, 0);
        x.rounds(400);
        return x;
    }

    /** All that can be told of an object with a few tasks. */
    static String all(Sleepers x) {
        StringBuilder told = new StringBuilder();
        for (int k = 0; k < 12; k++) {
            told.append(x.count(k)).append(' ');
        }
        int tasks = x.count(1);
        for (int t = 0; t < tasks; t++) {
            for (int k = 0; k < 8; k++) {
                told.append(x.task(t, k)).append(' ');
            }
            int cells = x.routine(x.task(t, 4), 1);
            for (int k = 0; k < cells; k++) {
                told.append(x.cell(t, k)).append(' ');
            }
        }
        for (int k = 0; k < 8; k++) {
            told.append(x.row(k)).append(' ').append(x.put(k, 0)).append(' ').append(x.put(k, 1)).append(' ');
            told.append(x.lost(k, 0)).append(' ').append(x.lost(k, 1)).append(' ');
            told.append(x.box(k, 0)).append(' ').append(x.stands(k, 0)).append(' ');
        }
        int routines = x.count(0);
        for (int r = 0; r < routines; r++) {
            told.append(x.routine(r, 0)).append(x.routine(r, 2)).append(x.live(r, 0, 0)).append(x.next(r, 0, 1)).append(' ');
        }
        return told.toString();
    }
}
