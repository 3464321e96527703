/** What tests of tables share: all CELLS, all STATES of a routine are looked at. */
class Ways {
    /** The CELLS that are live behind a STATE, in the order in which they have their numbers. */
    static void live(Sleepers x, int routine, int state, String cells) {
        String[] names = {"a", "b", "c", "d", "e"};
        for (String name : names) {
            int cell = Due.named(x, name, routine);
            if (cell != -1) {
                Due.due("live(" + routine + ", " + state + ", " + name + ")", x.live(routine, state, cell),
                        cells.contains(name) ? 1 : 0);
            }
        }
    }

    /** The STATES that may be next, 0 the end. */
    static void next(Sleepers x, int routine, int state, int... wanted) {
        int states = x.routine(routine, 2);
        for (int to = 0; to < states; to++) {
            int is = 0;
            for (int w : wanted) {
                is = w == to ? 1 : is;
            }
            Due.due("next(" + routine + ", " + state + ", " + to + ")", x.next(routine, state, to), is);
        }
    }
}
