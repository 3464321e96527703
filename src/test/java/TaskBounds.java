/**
 * The sentences of TASKS that name a bound, something empty or full, a wrap-around, or what is
 * refused: each has a test of its own, at the bound, one below and one above it.
 */
public final class TaskBounds extends Runs {
    public static void main(String[] args) {
        twoHundredTasks();
        numberedAsTheyBegin();
        untilAWaitOrTheEnd();
        letterOfABoxThatHasSome();
        letterOfAnEmptyBox();
        tickNotAboveZero();
        tickWhenTheClockIsThere();
        tickOrMoreAbove();
        yieldComesAtOnce();
        childFromTheLeft();
        childAtTheEndOfTheRow();
        childReturns();
        childFails();
        childWasCancelled();
        bothComesWhenAllHave();
        bothSumWraps();
        bothFailsWhenOneDoes();
        firstAsTheFirst();
        begunAreAll();
        severalAtOnce();
        withinNotAboveZero();
        withinItsTick();
        withinWAhead();
        tenWaitsWithinOneAnother();
        numbersAsTheWaitBegins();
        failureInAnE();
        letGoStandsForNoBox();
        letGoLatestFirst();
        letGoInnerAhead();
        theTaskTooMany();
        childrenHaveEnded();
        goesOnInItsNextTurn();
        cancelIsNothingTwice();
        cancelWithoutATurn();
        cancelInAWait();
        lostIfAValueHadCome();
        nothingLostOtherwise();
        cancelComesUp();
        kindsOfFailures();
        upToATry();
        noTryKeepsIt();
        aCancelIsKeptByNone();
        finishByEveryWay();
        finishesOfNineTries();
        returnsEAhead();
        failureInAFinish();
        cancelInAFinish();
        cancelOutlivesAFailure();
        sumsWrap();
        divisionsCut();
        tellOneOrZero();
        notZero();
        putWithItsTask();
        clockIsTheClock();
        stepsOfStatements();
        stepsOfWhile();
        stepsOfParts();
        stepsOfWaits();
        threeThousandSteps();
        eachKindOfStepIsRefused();
        threeThousandOfEachTurn();
        hundredThousandSteps();
        noFinishIsDone();
        wornOutLetsGo();
        Due.end();
    }

    static final int MIN = Integer.MIN_VALUE;
    static final int MAX = Integer.MAX_VALUE;

    // Routine 1 makes tasks that end at once: one with each of its turns but the last.
    static final String FILL = "routine k(){}routine f(n){while i<n{i=i+1;wait first(yield,child k());}}";

    /** A program, of which the routines from 2 on are told, with so many tasks that have ended. */
    static Sleepers filled(int tasks, String text) {
        Sleepers x = Due.with(FILL + text);
        x.begin(1, tasks - 1, 0, 0, 0);
        Due.due("rounds", x.rounds(400), tasks);
        Due.due("tasks", x.count(1), tasks);
        Due.due("ended", x.count(2), tasks);
        return x;
    }

    static Sleepers begun(String text, int... given) {
        Sleepers x = Due.with(text);
        int[] all = java.util.Arrays.copyOf(given, 4);
        Due.due("begin", x.begin(0, all[0], all[1], all[2], all[3]), 0);
        return x;
    }

    static void noneStands(Sleepers x) {
        Due.row("none stands for a box", b -> x.stands(b, 0), -1, -1, -1, -1, -1, -1, -1, -1);
    }

    static void twoHundredTasks() {
        Due.of("TASKS, 200 at most since the PROGRAM");
        Sleepers x = filled(199, "");
        Due.due("the 200th", x.begin(0, 0, 0, 0, 0), 199);
        Due.due("the 201st", x.begin(0, 0, 0, 0, 0), -1);
        Due.due("tasks", x.count(1), 200);
        Due.due("in the row", x.count(3), 1);
        x.turn(0);
        Due.due("though all have ended", x.begin(0, 0, 0, 0, 0), -1);
        Due.due("a faulty one", Due.program(x, ";"), 1);
        Due.due("does not make room", x.begin(0, 0, 0, 0, 0), -1);
        Due.due("a new one", Due.program(x, FILL), 0);
        Due.due("does", x.begin(0, 0, 0, 0, 0), 0);
    }

    static void numberedAsTheyBegin() {
        Due.of("numbered as they begin");
        Sleepers x = Due.with("routine a(){wait both(child b(1),child b(2));}routine b(n){}");
        begin(x, 0, 0);
        begin(x, 0, 1);
        x.turn(1);
        begin(x, 1, 4);
        x.turn(0);
        Due.row("parents", t -> x.task(t, 3), -1, -1, 1, 1, -1, 0, 0);
        Due.due("the first of the first", x.cell(5, 0), 1);
        Due.due("the second of the first", x.cell(6, 0), 2);
    }

    static void untilAWaitOrTheEnd() {
        Due.of("One runs until it comes to a wait, or ends: that is a TURN");
        Sleepers x = run("routine a(){}");
        task(x, 0, 3, 0, 0, -1, 0, 0, 1, 0);
        Sleepers y = begun("routine a(){put 1;wait yield;put 2;wait yield;}");
        y.turn(0);
        puts(y, 1);
        y.turn(0);
        puts(y, 1, 2);
        task(y, 0, 0, 0, 0, -1, 0, 2, 2, 0);
        y.turn(0);
        task(y, 0, 3, 0, 0, -1, 0, 2, 3, 0);
        Due.due("no more", y.turn(0), -1);
    }

    static void letterOfABoxThatHasSome() {
        Due.of("letter: if its box has letters it COMES at once with the first, which is taken");
        Sleepers x = begun("routine a(){b=wait letter 7;put b;b=wait letter 7;put b;b=wait letter 7;}");
        x.letter(7, 5);
        x.letter(7, 6);
        x.turn(0);
        Due.row("one is taken", k -> x.box(7, k), 6, 0);
        row(x, 0);
        x.turn(0);
        Due.due("and the other", x.count(10), 0);
        row(x, 0);
        x.turn(0);
        task(x, 0, 1);
        puts(x, 5, 6);
        // Of another box it takes none.
        x.letter(6, 1);
        Due.due("it stands still", x.stands(7, 0), 0);
    }

    static void letterOfAnEmptyBox() {
        Due.of("else it stands for the box behind those that do");
        Sleepers x = Due.with("routine a(){wait letter 0;}");
        Due.row("none", k -> x.stands(0, k), -1, -1);
        for (int i = 0; i < 3; i++) {
            begin(x, 0, i);
        }
        x.turn(2);
        Due.row("one", k -> x.stands(0, k), 2, -1);
        x.turn(0);
        x.turn(0);
        Due.row("three", k -> x.stands(0, k), 2, 0, 1, -1);
        Due.due("the longest takes it", x.letter(0, 1), 2);
        Due.row("two", k -> x.stands(0, k), 0, 1, -1);
        // Whatever they stood for ahead.
        Sleepers y = Due.with("routine a(n){wait tick n;wait letter 0;}routine b(){wait letter 0;}");
        y.begin(0, 9, 0, 0, 0);
        y.begin(0, 4, 0, 0, 0);
        y.begin(1, 0, 0, 0, 0);
        y.turn(0);
        y.turn(0);
        y.tick(9);
        y.turn(2);
        y.turn(1);
        y.turn(0);
        Due.row("stands", k -> y.stands(0, k), 0, 1, 2, -1);
    }

    static void tickNotAboveZero() {
        Due.of("tick E: .. at once, if E is not above 0");
        for (int n : new int[] {0, -1, -2, MIN, MIN + 1}) {
            Sleepers x = begun("routine a(n){b=1;b=wait tick n;put b;}", n);
            x.turn(0);
            row(x, 0);
            x.turn(0);
            puts(x, 0);
        }
    }

    static void tickWhenTheClockIsThere() {
        Due.of("it COMES with 0 when the CLOCK is E .. above what it was");
        for (int n : new int[] {1, 2, 10000}) {
            Sleepers x = Due.with("routine a(n){b=1;b=wait tick n;put b;}");
            x.tick(7);
            x.begin(0, n, 0, 0, 0);
            x.turn(0);
            task(x, 0, 1);
            x.tick(0);
            x.tick(n - 1);
            task(x, 0, 1);
            x.tick(1);
            task(x, 0, 0);
            x.turn(0);
            puts(x, 0);
        }
    }

    static void tickOrMoreAbove() {
        Due.of("or more above what it was");
        Sleepers x = begun("routine a(n){wait tick n;}", 3);
        x.turn(0);
        x.tick(10000);
        row(x, 0);
        Sleepers y = Due.with("routine a(n){wait tick n;}");
        y.tick(10000);
        y.begin(0, MAX, 0, 0, 0);
        y.begin(0, MAX - 9999, 0, 0, 0);
        y.begin(0, 10001, 0, 0, 0);
        y.rounds(3);
        y.tick(10000);
        row(y);
        y.tick(1);
        row(y, 2);
        y.tick(10000);
        row(y, 2);
    }

    static void yieldComesAtOnce() {
        Due.of("yield: it COMES at once with 0");
        Sleepers x = begun("routine a(){b=1;b=wait yield;put b;}");
        begin(x, 0, 1);
        x.turn(0);
        row(x, 1, 0);
        x.rounds(2);
        puts(x, 0);
    }

    static void childFromTheLeft() {
        Due.of("child: the E are worked out, from the left");
        Sleepers x = run("routine a(){wait child b();}routine b(){}");
        Due.due("no E", x.count(1), 2);
        String twelve = "c0,c1,c2,c3,c4,c5,c6,c7,c8,c9,c10,c11";
        Sleepers y = begun("routine a(){wait child b(1,2,3,4,5,6,7,8,9,10,11,12);}routine b(" + twelve + "){}");
        y.turn(0);
        Due.row("twelve E", k -> y.cell(1, k), 1, 2, 3, 4, 5, 6, 7, 8, 9, 10, 11, 12);
        // The first that fails: no STEP is taken for those behind it.
        Sleepers z = begun("routine a(){wait child b(1,2/0,3);}routine b(c,d,e){}");
        z.turn(0);
        Due.due("STEPS", z.count(9), 2 + 3);
        Due.due("none began", z.count(1), 1);
    }

    static void childAtTheEndOfTheRow() {
        Due.of("a task of that routine begins, at the end of the ROW");
        Sleepers x = Due.with("routine a(){wait both(child b(),child b());}routine b(){}");
        begin(x, 0, 0);
        x.turn(0);
        row(x, 1, 2);
        begin(x, 0, 3);
        begin(x, 1, 4);
        x.turn(2);
        row(x, 1, 2, 4, 5, 6);
    }

    static void childReturns() {
        Due.of("it COMES with what that returns (0 at its text's end)");
        String text = "routine a(n){b=7;b=wait child c(n);put b;}routine c(n){if n{return n;}}";
        for (int n : new int[] {0, 1, -1, MIN, MAX}) {
            Sleepers x = begun(text, n);
            x.rounds(9);
            puts(x, n);
        }
        puts(run("routine a(){b=7;b=wait child c();put b;}routine c(){}"), 0);
    }

    static void childFails() {
        Due.of("FAILS with the kind with which that failed");
        for (int kind = 1; kind <= 9; kind++) {
            puts(run("routine a(){try{wait child c();}on e{put e;}}routine c(){fail " + kind + ";}"), kind);
        }
        puts(run("routine a(){try{wait child c();}on e{put e;}}routine c(){put 1%0;}"), 11);
        puts(run("routine a(){try{wait child c();}on e{put e;}}routine c(){wait within 0 letter 0;}"), 21);
        puts(run("routine a(){try{wait child c();}on e{put e;}}routine c(){while 1{}}"), 24);
    }

    static void childWasCancelled() {
        Due.of("with 22 if that was cancelled");
        Sleepers x = begun("routine a(){try{wait child c();}on e{put e;}}routine c(){wait letter 0;}");
        x.turn(0);
        x.cancel(1);
        x.rounds(9);
        puts(x, 22);
        begin(x, 0, 2);
        x.rounds(2);
        x.cancel(3);
        row(x, 3);
        x.rounds(9);
        puts(x, 22, 22);
    }

    static void bothComesWhenAllHave() {
        Due.of("both: its WAITS begin in order; it COMES when all have, with the sum");
        String[] lists = {"letter 0", "letter 0,letter 1", "letter 0,letter 1,letter 2", "letter 0,letter 1,letter 2,letter 3"};
        for (int n = 1; n <= 4; n++) {
            Sleepers x = begun("routine a(){s=wait both(" + lists[n - 1] + ");put s;}");
            x.turn(0);
            int sum = 0;
            for (int i = n - 1; i >= 0; i--) {
                row(x);
                Due.due("it takes it", x.letter(i, 1 << i), 0);
                sum += 1 << i;
            }
            row(x, 0);
            x.turn(0);
            puts(x, sum);
        }
        puts(run("routine a(){s=9;s=wait both(yield,tick 0,yield,tick-1);put s;}"), 0);
        // One within the other, in any order.
        for (int from = 0; from < 3; from++) {
            Sleepers x = begun("routine a(){s=wait both(letter 0,both(letter 1,letter 2));put s;}");
            x.turn(0);
            for (int i = 0; i < 3; i++) {
                row(x);
                x.letter((from + i) % 3, 1 << (from + i) % 3);
            }
            x.turn(0);
            puts(x, 7);
        }
        // What came to an earlier wait is not in the sum.
        Sleepers y = begun("routine a(){s=wait letter 0;put s;s=wait both(letter 0,letter 0);put s;s=wait both(letter 0);put s;}");
        for (int i = 0; i < 4; i++) {
            y.letter(0, 1 << i);
        }
        y.rounds(9);
        puts(y, 1, 6, 8);
    }

    static void bothSumWraps() {
        Due.of("with the sum; + wraps in 32 bits");
        int[][] pairs = {{MAX, 1, MIN}, {MAX, 0, MAX}, {MIN, -1, MAX}, {MIN, MIN, 0}};
        for (int[] pair : pairs) {
            Sleepers x = begun("routine a(){s=wait both(letter 0,letter 0);put s;}");
            x.turn(0);
            x.letter(0, pair[0]);
            x.letter(0, pair[1]);
            x.turn(0);
            puts(x, pair[2]);
        }
    }

    static void bothFailsWhenOneDoes() {
        Due.of("when one FAILS it does so, with that kind");
        for (int at = 0; at < 4; at++) {
            String list = "letter 0,".repeat(at) + "child k()" + ",letter 0".repeat(3 - at);
            Sleepers x = begun("routine a(){try{wait both(" + list + ");}on e{put e;}}routine k(){fail 4;}");
            x.turn(0);
            x.letter(0, 1);
            Due.due("it stands", x.task(0, 0), 1);
            x.turn(0);
            row(x, 0);
            noneStands(x);
            x.turn(0);
            puts(x, 4);
        }
        puts(run("routine a(){try{wait both(yield,within 0 letter 0);}on e{put e;}}"), 21);
    }

    static void firstAsTheFirst() {
        Due.of("first: .. it COMES, FAILS as the first that does");
        Sleepers x = run("routine a(){s=wait first(letter 0);put s;}");
        x.letter(0, 3);
        x.turn(0);
        puts(x, 3);
        for (int at = 0; at < 4; at++) {
            Sleepers y = run("routine a(){s=wait first(letter 0,letter 1,letter 2,letter 3);put s;}");
            y.letter(at, 10 + at);
            noneStands(y);
            y.turn(0);
            puts(y, 10 + at);
        }
        puts(run("routine a(){try{wait first(letter 0,child k());}on e{put e;}}routine k(){fail 9;}"), 9);
    }

    static void begunAreAll() {
        Due.of("(Begun are all");
        Sleepers x = begun("routine a(){s=wait first(yield,letter 0,child k(),letter 1);put s;}routine k(){}");
        x.letter(0, 5);
        x.turn(0);
        Due.due("the letter is taken", x.count(10), 0);
        Due.due("the child began", x.count(1), 2);
        task(x, 1, 3, 22);
        noneStands(x);
        Due.due("STEPS", x.count(9), 6);
        Sleepers y = begun("routine a(){wait both(within 0 letter 1,letter 0);}");
        y.letter(0, 5);
        y.turn(0);
        Due.due("though one has failed", y.count(10), 0);
    }

    static void severalAtOnce() {
        Due.of("of several that have at once, as they begin, the first in order.)");
        String[] lists = {"letter 0,letter 1", "letter 1,letter 0", "letter 2,letter 1,letter 0", "letter 2,yield,letter 0", "letter 3,letter 2"};
        int[] wanted = {10, 11, 11, 0, 13};
        for (int i = 0; i < lists.length; i++) {
            Sleepers x = begun("routine a(){s=wait first(" + lists[i] + ");put s;}");
            x.letter(0, 10);
            x.letter(1, 11);
            x.letter(3, 13);
            x.rounds(2);
            puts(x, wanted[i]);
        }
        puts(run("routine a(){try{wait first(within 0 letter 0,yield);put 1;}on e{put e;}}"), 21);
        puts(run("routine a(){try{wait first(yield,within 0 letter 0);put 1;}on e{put e;}}"), 1);
    }

    static void withinNotAboveZero() {
        Due.of("within E W: .. as first of W and tick E (E not above 0)");
        for (int n : new int[] {0, -1, MIN}) {
            Sleepers x = begun("routine a(n){try{wait within n letter 0;}on e{put e;}b=wait within n yield;put b;c=wait within n letter 1;put c;}", n);
            x.letter(1, 8);
            x.turn(0);
            row(x, 0);
            noneStands(x);
            x.rounds(9);
            puts(x, 21, 0, 8);
        }
    }

    static void withinItsTick() {
        Due.of("but where the tick is the first it FAILS with 21");
        for (int n : new int[] {1, 2, 10000}) {
            Sleepers x = begun("routine a(n){try{b=wait within n letter 0;put b;}on e{put e;}}", n);
            begin(x, 0, 1);
            x.turn(0);
            x.tick(n - 1);
            row(x, 1);
            x.tick(1);
            row(x, 1, 0);
            noneStands(x);
            x.turn(1);
            puts(x, 21);
            // One below it the letter is the first.
            Sleepers y = begun("routine a(n){try{b=wait within n letter 0;put b;}on e{put e;}}", n);
            y.turn(0);
            y.tick(n - 1);
            y.letter(0, 5);
            y.tick(1);
            row(y, 0);
            y.turn(0);
            puts(y, 5);
        }
        Sleepers z = begun("routine a(n){wait within n letter 0;}", MAX);
        z.turn(0);
        z.tick(10000);
        row(z);
    }

    static void withinWAhead() {
        Due.of("W ahead");
        int[][] rows = {{2, 1, 0}, {2, 2, 0}, {2, 3, 21}, {1, 1, 0}, {0, 0, 0}, {0, 1, 21}};
        for (int[] r : rows) {
            Sleepers x = begun("routine a(n,m){try{b=1;b=wait within n tick m;put b;}on e{put e;}}", r[0], r[1]);
            x.turn(0);
            x.tick(3);
            x.turn(0);
            puts(x, r[2]);
        }
    }

    static void tenWaitsWithinOneAnother() {
        Due.of("10 WAITS within one another: what comes to the innermost comes to all");
        String[][] pairs = {{"both(", ")"}, {"first(", ")"}, {"within 3 ", ""}, {"first(letter 1,", ")"}, {"both(yield,", ")"}};
        for (String[] pair : pairs) {
            String wait = pair[0].repeat(9) + "letter 0" + pair[1].repeat(9);
            Sleepers x = run("routine a(){s=wait " + wait + ";put s;}");
            Due.due("it takes it", x.letter(0, 5), 0);
            noneStands(x);
            x.tick(9);
            row(x, 0);
            x.turn(0);
            puts(x, 5);
            Sleepers y = run("routine a(){wait " + wait + ";}");
            y.cancel(0);
            noneStands(y);
            row(y, 0);
            Sleepers z = run("routine a(){try{wait " + wait.replace("letter 0", "child k()") + ";}on e{put e;}}routine k(){fail 6;}");
            puts(z, 6);
        }
    }

    static void numbersAsTheWaitBegins() {
        Due.of("E are worked out as their WAIT begins");
        Sleepers x = Due.with("routine a(){b=2;wait both(tick b,tick clock+b);b=9;}");
        x.tick(1);
        begin(x, 0, 0);
        x.turn(0);
        x.tick(2);
        row(x);
        x.tick(1);
        row(x, 0);
        // Ahead of it what stands in the same wait has taken its letter already.
        Sleepers y = begun("routine a(){try{wait both(letter 0,tick 1/0,letter 0);}on e{put e;}}");
        y.letter(0, 1);
        y.letter(0, 2);
        y.turn(0);
        Due.row("the second lies", k -> y.box(0, k), 2, 0);
    }

    static void failureInAnE() {
        Due.of("a failure in one ends the wait at once, it is the task's failure there");
        String[] waits = {"tick 1/0", "both(letter 0,tick 1%0,letter 1)", "first(yield,child k(),tick 1/0,letter 1)",
            "within 1/0 letter 1", "within 1 tick 1/0", "child j(1/0)", "first(child k(),child j(1/0),letter 1)"};
        for (String wait : waits) {
            Sleepers x = begun("routine a(){try{b=5;b=wait " + wait + ";put 1;}on e{put e;put b;}}routine k(){put 2;}routine j(n){}");
            x.letter(1, 7);
            x.turn(0);
            row(x, 0);
            noneStands(x);
            Due.due("what is behind has not begun", x.box(1, 0), 7);
            puts(x);
            task(x, 0, 0, 0, 0, -1, 0, 1, 1, 0);
            x.rounds(9);
            puts(x, 11, 5);
            task(x, 0, 3, 0);
        }
        // The next wait is one of its own.
        Sleepers y = run("routine a(){try{wait both(letter 0,first(letter 1,tick 1/0));}on e{put e;}b=wait letter 2;put b;}");
        y.letter(2, 5);
        y.rounds(1);
        puts(y, 11, 5);
    }

    static void letGoStandsForNoBox() {
        Due.of("What has not COME nor FAILED when a both, first, within does, or the wait is ended, is LET GO: it stands for no box");
        String waits = "first(letter 0,letter 1,both(letter 2,letter 3),within 9 letter 4)";
        Sleepers x = run("routine a(){wait " + waits + ";}");
        Due.row("stands", b -> x.stands(b, 0), 0, 0, 0, 0, 0, -1, -1, -1);
        x.letter(2, 1);
        Due.row("one that came stands no more", b -> x.stands(b, 0), 0, 0, -1, 0, 0, -1, -1, -1);
        x.letter(3, 1);
        noneStands(x);
        Due.due("a letter lies there", x.letter(0, 1), -1);
        // The tick of what was let go is no more due.
        row(x, 0);
        x.tick(9);
        row(x, 0);
        // An inner one alone.
        Sleepers y = run("routine a(){wait both(first(letter 0,letter 1),letter 2);}");
        y.letter(1, 1);
        Due.row("stands", b -> y.stands(b, 0), -1, -1, 0, -1);
        // The wait is ended.
        Sleepers z = run("routine a(){wait " + waits + ";}");
        z.cancel(0);
        noneStands(z);
    }

    // Those that are CANCELLED come to the ROW in the order in which they were.
    static final String KIDS = "routine k(){wait letter 7;}";

    static void letGoLatestFirst() {
        Due.of("a child is CANCELLED, the latest begun first");
        Sleepers none = run("routine a(){wait first(letter 0,letter 1);}");
        none.letter(0, 1);
        row(none, 0);
        Sleepers one = run("routine a(){wait first(letter 0,child k());}" + KIDS);
        one.letter(0, 1);
        row(one, 1);
        Sleepers three = run("routine a(){wait first(child k(),letter 0,child k(),child k());}" + KIDS);
        three.letter(0, 1);
        row(three, 3, 2, 1);
        Sleepers all = run("routine a(){wait both(child k(),both(child k(),child k()),child k());}" + KIDS);
        all.cancel(0);
        row(all, 4, 3, 2, 1);
    }

    static void letGoInnerAhead() {
        Due.of("(of an inner one ahead of the one about it)");
        Sleepers x = run("routine a(){wait first(child k(),first(letter 0,child k()),child k());}" + KIDS);
        x.letter(0, 1);
        row(x, 2, 3, 1);
        Sleepers y = run("routine a(){wait first(child k(),within 3 first(letter 0,child k()),child k());}" + KIDS);
        y.tick(3);
        row(y, 2, 3, 1);
        Sleepers z = run("routine a(){wait first(child k(),both(child k(),child j()),child k());}" + KIDS + "routine j(){wait letter 0;fail 2;}");
        z.letter(0, 1);
        z.turn(0);
        row(z, 2, 4, 1);
    }

    static void theTaskTooMany() {
        Due.of("(There may be 200 tasks: the 201st fails with 23, as a failure in an E.)");
        String text = "routine a(){try{wait both(child k(),child k(),letter 0);put 1;}on e{put e;}}";
        Sleepers below = filled(197, text);
        below.begin(2, 0, 0, 0, 0);
        below.turn(0);
        Due.due("200 are there", below.count(1), 200);
        Due.row("two children", below::row, 198, 199, -1);
        Due.due("the wait stands", below.stands(0, 0), 197);
        Sleepers at = filled(198, text);
        at.begin(2, 0, 0, 0, 0);
        at.turn(0);
        Due.due("200 are there", at.count(1), 200);
        Due.row("the child is let go", at::row, 198, -1);
        task(at, 199, 3, 22, 0, 198, 0, 0, 0, 1);
        at.turn(0);
        puts(at, 23);
        Sleepers full = filled(199, text + "routine b(){try{wait child f(1/0);}on e{put e;}}");
        full.begin(2, 0, 0, 0, 0);
        full.letter(0, 1);
        full.turn(0);
        Due.due("none began", full.count(1), 200);
        Due.due("what is behind has not begun", full.count(10), 1);
        full.turn(0);
        puts(full, 23);
        // Its E are worked out ahead: their failure is the first.
        Sleepers sums = filled(199, "routine b(){try{wait child f(1/0);}on e{put e;}}");
        sums.begin(2, 0, 0, 0, 0);
        sums.rounds(2);
        puts(sums, 11);
        // Kept by no try it ends the task.
        Sleepers ends = filled(199, "routine b(){wait child k();}");
        ends.begin(2, 0, 0, 0, 0);
        ends.rounds(2);
        task(ends, 199, 3, 23);
    }

    static void childrenHaveEnded() {
        Due.of("When a wait has COME or FAILED (or was ended), and all children that it began have ended, its task comes to the end of the ROW");
        Sleepers none = begun("routine a(){wait letter 0;}");
        none.turn(0);
        begin(none, 0, 1);
        none.letter(0, 1);
        row(none, 1, 0);
        Sleepers x = run("routine a(){wait first(letter 0,child k(),child k());}" + "routine k(){try{wait letter 7;}finish{wait letter 6;}}");
        x.letter(0, 1);
        task(x, 0, 2);
        x.rounds(2);
        task(x, 0, 2);
        x.letter(6, 1);
        x.rounds(1);
        task(x, 0, 2);
        row(x);
        x.letter(6, 1);
        x.rounds(1);
        task(x, 0, 0);
        row(x, 0);
        // It FAILED, and it was ended by a CANCEL.
        Sleepers y = run("routine a(){wait both(child j(),child k());}routine j(){wait letter 0;fail 1;}routine k(){wait letter 7;}");
        y.letter(0, 1);
        y.turn(0);
        task(y, 0, 2);
        row(y, 2);
        y.turn(0);
        row(y, 0);
        Sleepers z = run("routine a(){wait both(child k(),letter 0);}routine k(){wait letter 7;}");
        z.cancel(0);
        task(z, 0, 2);
        row(z, 1);
        z.turn(0);
        row(z, 0);
    }

    static void goesOnInItsNextTurn() {
        Due.of("In its next TURN it goes on: with the value (the CELL becomes it), or with the failure");
        Sleepers x = run("routine a(){b=3;b=wait letter 0;put b;}");
        x.letter(0, MIN);
        Due.due("not yet", x.cell(0, 0), 3);
        x.turn(0);
        Due.due("now", x.cell(0, 0), MIN);
        puts(x, MIN);
        Sleepers y = run("routine a(){try{b=3;b=wait within 1 letter 0;}on e{put e;}}");
        y.tick(1);
        puts(y);
        y.turn(0);
        puts(y, 21);
        Due.due("the CELL stays", y.cell(0, 0), 3);
        Sleepers z = run("routine a(){b=3;wait letter 0;put b;}");
        z.letter(0, 9);
        z.turn(0);
        puts(z, 3);
    }

    static void cancelIsNothingTwice() {
        Due.of("To CANCEL a task: nothing if it has ended, or was CANCELLED already");
        Sleepers x = run("routine a(){try{wait letter 0;}finish{wait letter 1;put 1;}}");
        Due.due("once", x.cancel(0), true);
        Due.due("twice", x.cancel(0), false);
        x.turn(0);
        Due.due("in its finish", x.cancel(0), false);
        Due.due("it stands still", x.stands(1, 0), 0);
        x.letter(1, 5);
        Due.due("behind it", x.cancel(0), false);
        Due.due("lost", x.count(6), 0);
        x.turn(0);
        puts(x, 1);
        Due.due("ended", x.cancel(0), false);
        task(x, 0, 3, 22, 0, -1, 0, 2, 3, 1);
        Sleepers y = run("routine a(){}");
        Due.due("ended well", y.cancel(0), false);
        task(y, 0, 3, 0, 0, -1, 0, 0, 1, 0);
        // A child that is CANCELLED already is not so again by its parent's let go.
        Sleepers z = run("routine a(){wait first(letter 0,child k());}routine k(){try{wait letter 7;}finish{wait letter 6;put 6;}}");
        z.cancel(1);
        z.turn(0);
        z.letter(0, 1);
        Due.due("its finish stands", z.stands(6, 0), 1);
        z.letter(6, 1);
        z.rounds(9);
        puts(z, 6);
    }

    static void cancelWithoutATurn() {
        Due.of("One that had no TURN yet has ended by it");
        Sleepers x = Due.with("routine a(){try{put 1;}finish{put 2;}}");
        for (int i = 0; i < 3; i++) {
            begin(x, 0, i);
        }
        x.cancel(1);
        row(x, 0, 2);
        task(x, 1, 3, 22, 0, -1, 0, 0, 0, 1);
        Due.due("ended", x.count(2), 1);
        x.cancel(2);
        row(x, 0);
        x.cancel(0);
        row(x);
        puts(x);
        Due.due("lost", x.count(6), 0);
        // One that had one has not.
        Sleepers y = begun("routine a(){wait yield;}");
        y.turn(0);
        y.cancel(0);
        task(y, 0, 0, 0, 0, -1, 0, 1, 1, 1);
        row(y, 0);
    }

    static void cancelInAWait() {
        Due.of("Else: if it is in a wait: all of this is LET GO");
        Sleepers x = run("routine a(){wait both(letter 0,first(letter 1,tick 5),child k());}" + KIDS);
        x.cancel(0);
        noneStands(x);
        row(x, 1);
        task(x, 1, 0, 0, 0, 0, 1, 1, 1, 1);
        x.rounds(9);
        task(x, 0, 3, 22);
        task(x, 1, 3, 22);
        Sleepers y = run("routine a(){wait letter 0;}");
        y.cancel(0);
        row(y, 0);
    }

    static void lostIfAValueHadCome() {
        Due.of("if a value had COME (the task stands in the ROW, or its children were waited for), that is LOST (noted: task, value)");
        Sleepers x = run("routine a(){wait letter 0;}");
        x.letter(0, MIN);
        x.cancel(0);
        row(x, 0);
        Due.due("task", x.lost(0, 0), 0);
        Due.due("value", x.lost(0, 1), MIN);
        Sleepers y = run("routine a(){wait first(letter 0,child k());}" + KIDS);
        y.letter(0, 6);
        task(y, 0, 2);
        y.cancel(0);
        task(y, 0, 2);
        Due.due("task", y.lost(0, 0), 0);
        Due.due("value", y.lost(0, 1), 6);
        Due.due("one", y.count(6), 1);
        // One that its parent lets go.
        Sleepers z = run("routine a(){wait first(letter 0,child k());}" + KIDS);
        z.letter(7, 3);
        z.letter(0, 4);
        Due.due("task", z.lost(0, 0), 1);
        Due.due("value", z.lost(0, 1), 3);
        Due.due("one", z.count(6), 1);
    }

    static void nothingLostOtherwise() {
        Due.of("if a value had COME .. that is LOST: no value, none");
        Sleepers pending = run("routine a(){wait letter 0;}");
        pending.cancel(0);
        Due.due("in a wait", pending.count(6), 0);
        Sleepers some = run("routine a(){wait both(letter 0,letter 1);}");
        some.letter(0, 4);
        some.cancel(0);
        Due.due("one of two", some.count(6), 0);
        Sleepers failed = run("routine a(){wait within 1 letter 0;}");
        failed.tick(1);
        failed.cancel(0);
        Due.due("a failure", failed.count(6), 0);
        failed.rounds(1);
        task(failed, 0, 3, 22);
        Sleepers broken = begun("routine a(){wait both(yield,tick 1/0);}");
        broken.turn(0);
        broken.cancel(0);
        Due.due("a failure in an E", broken.count(6), 0);
        Sleepers fresh = begun("routine a(){}");
        fresh.cancel(0);
        Due.due("no turn yet", fresh.count(6), 0);
    }

    static void cancelComesUp() {
        Due.of("When it goes on a CANCEL comes up there");
        Sleepers x = run("routine a(){b=1;b=wait letter 0;put b;}");
        x.letter(0, 9);
        x.cancel(0);
        x.turn(0);
        puts(x);
        Due.due("the CELL stays", x.cell(0, 0), 1);
        task(x, 0, 3, 22, 0, -1, 0, 1, 2, 1);
    }

    static void kindsOfFailures() {
        Due.of("FAILURES: of fail N: N; / and % by 0: 11; of waits");
        for (int n = 1; n <= 9; n++) {
            task(run("routine a(){fail " + n + ";}"), 0, 3, n, 0);
        }
        for (String sum : new String[] {"1/0", "1%0", "0/0", "0%0", "1/(2-2)", "1+2*(3%0)"}) {
            Sleepers x = run("routine a(){put 7;put " + sum + ";put 8;}");
            task(x, 0, 3, 11, 0);
            puts(x, 7);
        }
        for (String sum : new String[] {"0/1", "0%1", "0/-1", "0*0"}) {
            task(run("routine a(){put " + sum + ";}"), 0, 3, 0, 0);
        }
        task(run("routine a(){wait within 0 letter 0;}"), 0, 3, 21, 0);
    }

    static void upToATry() {
        Due.of("up to a try: if it comes up in its first BLOCK, and it has an on: the CELL becomes the kind, the BLOCK of on is done");
        puts(run("routine a(){try{fail 3;put 1;}on e{put e;}put 2;}"), 3, 2);
        puts(run("routine a(){try{put 1;}on e{put e;}put 2;}"), 1, 2);
        puts(run("routine a(){try{try{fail 3;}on e{fail 4;}}on e{put e;}}"), 4);
        puts(run("routine a(){try{try{fail 3;}finish{put 1;}}on e{put e;}}"), 1, 3);
        puts(run("routine a(){try{try{put 1;}finish{fail 5;}}on e{put e;}}"), 1, 5);
        puts(run("routine a(){try{try{}on e{put 7;}finish{fail 5;}}on e{put e;}}"), 5);
        puts(run("routine a(){e=8;try{}on e{}put e;}"), 8);
    }

    static void noTryKeepsIt() {
        Due.of("One that comes up ends what is being done, outward (without a try: the task)");
        Sleepers x = run("routine a(){while 1{if 1{fail 6;}}put 1;}");
        task(x, 0, 3, 6, 0);
        puts(x);
        Sleepers y = run("routine a(){try{fail 6;}on e{fail 7;}put 1;}");
        task(y, 0, 3, 7, 0);
        puts(y);
    }

    static void aCancelIsKeptByNone() {
        Due.of("A CANCEL is kept by none");
        Sleepers x = run("routine a(){try{try{wait letter 0;}on e{put 1;}put 2;}on e{put 3;}put 4;}");
        x.cancel(0);
        x.turn(0);
        puts(x);
        task(x, 0, 3, 22);
    }

    static void finishByEveryWay() {
        Due.of("A finish BLOCK is done as its try is left: behind the first BLOCK and that of on, as they end, by break, continue, return, failures and CANCEL; behind it goes on what left");
        puts(run("routine a(){try{}finish{put 1;}put 2;}"), 1, 2);
        puts(run("routine a(){try{fail 3;}on e{put e;}finish{put 1;}put 2;}"), 3, 1, 2);
        puts(run("routine a(){while 1{try{break;}finish{put 1;}put 5;}put 2;}"), 1, 2);
        puts(run("routine a(){while i<2{i=i+1;try{continue;}finish{put i;}put 5;}put 9;}"), 1, 2, 9);
        puts(run("routine a(){while 1{try{fail 3;}on e{break;}finish{put 1;}put 5;}put 2;}"), 1, 2);
        Sleepers x = run("routine a(){try{return 8;}finish{put 1;}put 2;}");
        puts(x, 1);
        task(x, 0, 3, 0, 8);
        Sleepers y = run("routine a(){try{fail 3;}finish{put 1;}put 2;}");
        puts(y, 1);
        task(y, 0, 3, 3, 0);
        Sleepers z = run("routine a(){try{fail 3;}on e{fail 4;}finish{put 1;}put 2;}");
        puts(z, 1);
        task(z, 0, 3, 4, 0);
        Sleepers c = run("routine a(){try{wait letter 0;}on e{put 5;}finish{put 1;}put 2;}");
        c.cancel(0);
        c.turn(0);
        puts(c, 1);
        task(c, 0, 3, 22, 0);
        Sleepers d = run("routine a(){try{fail 3;}on e{wait letter 0;}finish{put 1;}put 2;}");
        d.cancel(0);
        d.turn(0);
        puts(d, 1);
        task(d, 0, 3, 22, 0);
        // By what it was left the time before is forgotten.
        puts(run("routine a(){while i<3{i=i+1;try{if i=1{continue;}}finish{put i;}put 10+i;}}"), 1, 2, 12, 3, 13);
        puts(run("routine a(){while i<3{i=i+1;try{if i=1{continue;}fail 1;}on e{}finish{put i;}put 10+i;}}"), 1, 2, 12, 3, 13);
        puts(run("routine a(){while i<2{i=i+1;try{try{if i=1{fail 5;}}finish{put i;}}on e{put e;}put 10+i;}}"), 1, 5, 11, 2, 12);
        // It is done once, and with nothing in it.
        puts(run("routine a(){try{try{}finish{}}finish{}put 2;}"), 2);
    }

    /** Nine tries within one another, as many as 10 BLOCKS have room for, each with a finish. */
    static String nine(String inner) {
        StringBuilder text = new StringBuilder("try{".repeat(9) + inner);
        for (int i = 9; i >= 1; i--) {
            text.append("}finish{put ").append(i).append(";}");
        }
        return text.toString();
    }

    static void finishesOfNineTries() {
        Due.of("behind it goes on what left (through as many finishes as 10 BLOCKS have)");
        int[] all = {9, 8, 7, 6, 5, 4, 3, 2, 1};
        Sleepers x = run("routine a(){" + nine("return 77;") + "put 0;}");
        puts(x, all);
        task(x, 0, 3, 0, 77);
        Sleepers y = run("routine a(){" + nine("fail 7;") + "put 0;}");
        puts(y, all);
        task(y, 0, 3, 7, 0);
        puts(run("routine a(){" + nine("") + "put 0;}"), 9, 8, 7, 6, 5, 4, 3, 2, 1, 0);
        Sleepers z = run("routine a(){" + nine("wait letter 0;") + "put 0;}");
        z.cancel(0);
        z.turn(0);
        puts(z, all);
        task(z, 0, 3, 22, 0);
        String eight = nine("break;").replaceFirst("try[{]", "while 1{").replaceAll("finish[{]put 1;[}]$", "");
        puts(run("routine a(){" + eight + "put 0;}"), 9, 8, 7, 6, 5, 4, 3, 2, 0);
        // Each in the finish of the other.
        Sleepers w = run("routine a(){" + "try{fail 1;}finish{".repeat(8) + "try{fail 9;}finish{put 5;}" + "}".repeat(8) + "}");
        puts(w, 5);
        task(w, 0, 3, 9, 0);
    }

    static void returnsEAhead() {
        Due.of("return (whose E is worked out ahead)");
        Sleepers x = run("routine a(){b=1;try{return b;}finish{b=2;}}");
        task(x, 0, 3, 0, 1);
        Sleepers y = run("routine a(){try{return 1/0;}on e{put e;}finish{put 2;}put 3;}");
        puts(y, 11, 2, 3);
        task(y, 0, 3, 0, 0);
        Sleepers z = run("routine a(){try{return clock+999999999;}finish{wait letter 0;}}");
        z.tick(5);
        task(z, 0, 1, 0, 0);
        z.letter(0, 3);
        z.turn(0);
        task(z, 0, 3, 0, 999999999);
    }

    static void failureInAFinish() {
        Due.of("But a failure in it takes the place of this, if it is no CANCEL");
        task(run("routine a(){try{}finish{fail 5;}}"), 0, 3, 5, 0);
        task(run("routine a(){try{return 8;}finish{fail 5;}}"), 0, 3, 5, 0);
        task(run("routine a(){try{fail 3;}finish{fail 5;}}"), 0, 3, 5, 0);
        task(run("routine a(){while 1{try{break;}finish{fail 5;}}}"), 0, 3, 5, 0);
        task(run("routine a(){while 1{try{continue;}finish{fail 5;}}}"), 0, 3, 5, 0);
        // One that is kept within it takes no place.
        task(run("routine a(){try{return 8;}finish{try{fail 5;}on e{}}}"), 0, 3, 0, 8);
    }

    static void cancelInAFinish() {
        Due.of("a CANCEL that comes up in it takes the place of all");
        String[] leaves = {"", "return 8;", "fail 3;", "break;", "continue;"};
        for (String leave : leaves) {
            Sleepers x = run("routine a(){try{while 1{try{" + leave + "}finish{wait letter 0;put 1;}put 2;return 1;}put 3;}on e{put 4;}finish{put 5;}}");
            x.cancel(0);
            x.turn(0);
            puts(x, 5);
            task(x, 0, 3, 22, 0);
        }
    }

    static void cancelOutlivesAFailure() {
        Due.of("if it is one the finish BLOCK is ended by a failure, and it goes on");
        Sleepers x = run("routine a(){try{try{wait letter 0;}finish{put 1;fail 5;put 2;}}on e{put 3;}finish{put 4;}put 6;}");
        x.cancel(0);
        x.turn(0);
        puts(x, 1, 4);
        task(x, 0, 3, 22, 0);
        // Out of a try within that finish, and through that one's finish.
        Sleepers y = run("routine a(){try{wait letter 0;}finish{try{fail 5;}finish{put 1;}put 2;}}");
        y.cancel(0);
        y.turn(0);
        puts(y, 1);
        task(y, 0, 3, 22, 0);
        Sleepers z = run("routine a(){try{wait letter 0;}finish{wait within 1 letter 1;put 2;}}");
        z.cancel(0);
        z.turn(0);
        z.tick(1);
        z.turn(0);
        puts(z);
        task(z, 0, 3, 22, 0);
    }

    /** What a routine of two NAMES puts. */
    static void sum(String text, int a, int b, int... wanted) {
        Sleepers x = begun("routine r(a,b){" + text + "}", a, b);
        x.turn(0);
        puts(x, wanted);
    }

    static void sumsWrap() {
        Due.of("+ - * wrap in 32 bits");
        sum("put a+b;put a-b;put a*b;", MAX, 0, MAX, MAX, 0);
        sum("put a+b;put a-b;put a*b;", MAX, 1, MIN, MAX - 1, MAX);
        sum("put a+b;put a-b;put a*b;", MIN, 1, MIN + 1, MAX, MIN);
        sum("put a+b;put a-b;put a*b;", MIN, -1, MAX, MIN + 1, MIN);
        sum("put a+b;put a-b;put a*b;", MIN, MIN, 0, 0, 0);
        sum("put a+b;put a-b;put a*b;", MAX, MAX, -2, 0, 1);
        sum("put a*b;put 999999999*999999999;", 65536, 65536, 0, 999999999 * 999999999);
        sum("put a*b;", 65536, 32768, MIN);
        sum("put-a;put-b;", MIN, MAX, MIN, -MAX);
    }

    static void divisionsCut() {
        Due.of("/ and % cut towards 0");
        sum("put a/b;put a%b;", 7, 2, 3, 1);
        sum("put a/b;put a%b;", -7, 2, -3, -1);
        sum("put a/b;put a%b;", 7, -2, -3, 1);
        sum("put a/b;put a%b;", -7, -2, 3, -1);
        sum("put a/b;put a%b;", 1, 2, 0, 1);
        sum("put a/b;put a%b;", -1, 2, 0, -1);
        sum("put a/b;put a%b;", MIN, 1, MIN, 0);
        sum("put a/b;put a%b;", MIN, 2, MIN / 2, 0);
        sum("put a/b;put a%b;", MIN, MAX, -1, -1);
        sum("put a/b;put a%b;", MAX, MIN, 0, MAX);
        // The one quotient that does not fit wraps, as - does.
        sum("put a/b;put a%b;", MIN, -1, MIN, 0);
    }

    static void tellOneOrZero() {
        Due.of("<, = tell 1 or 0");
        sum("put a<b;put a=b;put b<a;", 4, 5, 1, 0, 0);
        sum("put a<b;put a=b;put b<a;", 5, 5, 0, 1, 0);
        sum("put a<b;put a=b;put b<a;", 6, 5, 0, 0, 1);
        sum("put a<b;put a=b;put b<a;", MIN, MAX, 1, 0, 0);
        sum("put a<b;put a=b;put b<a;", MAX, MIN, 0, 0, 1);
        sum("put a<b;put a=b;put b<a;", MIN, MIN, 0, 1, 0);
        sum("put a<b;put a=b;put b<a;", -1, 0, 1, 0, 0);
    }

    static void notZero() {
        Due.of("if, while: not 0");
        for (int n : new int[] {-1, 1, 2, MIN, MAX}) {
            sum("if a{put 1;}else{put 2;}while a{put 3;a=0;}", n, 0, 1, 3);
        }
        sum("if a{put 1;}else{put 2;}while a{put 3;a=0;}", 0, 0, 2);
        sum("if a{put 1;}", 0, 0);
    }

    static void putWithItsTask() {
        Due.of("put: noted with its task");
        Sleepers x = Due.with("routine a(n){put n;wait yield;put n;}");
        x.begin(0, MIN, 0, 0, 0);
        x.begin(0, MAX, 0, 0, 0);
        Due.due("none yet", x.count(5), 0);
        x.rounds(4);
        puts(x, MIN, MAX, MIN, MAX);
        Due.row("whose", i -> x.put(i, 0), 0, 1, 0, 1, -1);
    }

    static void clockIsTheClock() {
        Due.of("clock: the CLOCK");
        Sleepers x = Due.with("routine a(){put clock;wait tick 1;put clock;}");
        begin(x, 0, 0);
        x.turn(0);
        x.tick(10000);
        x.turn(0);
        puts(x, 0, 10000);
    }

    /** The STEPS of a task's first TURN. */
    static void steps(int wanted, String statements) {
        Sleepers x = begun("routine a(){" + statements + "}routine k(){}routine j(n,m){}");
        x.turn(0);
        Due.due("STEPS of " + statements, x.count(9), wanted);
        Due.due("STEPS in all of " + statements, x.count(8), wanted);
    }

    static void stepsOfStatements() {
        Due.of("STEPS: each STATEMENT as it begins");
        steps(0, "");
        steps(2, "x=1;");
        steps(2, "put 1;");
        steps(2, "if 0{put 1;}");
        steps(4, "if 1{put 1;}");
        steps(4, "if 0{}else{put 1;}");
        steps(2, "return 1;put 2;");
        steps(1, "fail 1;put 2;");
        steps(1, "try{}on e{put 1;}");
        steps(1, "try{}finish{}");
        steps(3, "try{}finish{put 1;}");
        steps(4, "try{fail 1;}on e{put 1;}");
        steps(3, "while 1{break;}");
        steps(3, "put 1/0;put 3;");
    }

    static void stepsOfWhile() {
        Due.of("(of while each time that its E is looked at)");
        steps(2, "while 0{}");
        steps(3 + 3 + 3, "while i<1{i=i+1;}");
        steps(2 * (3 + 3) + 3, "while i<2{i=i+1;}");
        steps(3 + 3 + 1 + 3, "while i<1{i=i+1;continue;}");
    }

    static void stepsOfParts() {
        Due.of("each PART as it is worked out (ahead of what is in it)");
        steps(3, "put 1+2;");
        steps(3, "put(1);");
        steps(3, "put-1;");
        steps(4, "put-(1);");
        steps(6, "put(1+2)*-3;");
        steps(2, "put clock;");
        steps(2, "put x;");
        steps(3, "put 1<2;");
        // What is behind a failure is not worked out.
        steps(3, "put 1/0+2;");
        steps(5, "put-(1%0)*2;");
        // 3,000 are taken at the ( : what is in it does not begin.
        Sleepers x = used(2999, "put(1/0);", "");
        task(x, 0, 3, 24);
    }

    static void stepsOfWaits() {
        Due.of("each WAIT as it begins");
        steps(2, "wait yield;");
        steps(2, "x=wait yield;");
        steps(2, "wait letter 0;");
        steps(3, "wait tick 1;");
        steps(2, "wait child k();");
        steps(4, "wait child j(1,2);");
        steps(3, "wait both(yield);");
        steps(6, "wait both(yield,yield,yield,yield);");
        steps(4, "wait first(yield,letter 0);");
        steps(4, "wait within 1 yield;");
        steps(6, "wait within 1 within 2 letter 0;");
        // Ahead of its E.
        steps(4, "wait tick 1/0;");
        steps(5, "wait both(tick 1/0,yield);");
    }

    /** A task whose first TURN has taken so many STEPS (2998 .. 3000) when it comes to the statements. */
    static Sleepers used(int taken, String statements, String routines) {
        // 6 for each of 499 rounds and 3 for the last look; one for each try.
        String ahead = "while i<499{i=i+1;}" + "try{}on e{}".repeat(taken - 2997);
        Sleepers x = begun("routine a(){" + ahead + statements + "}" + routines);
        x.letter(1, 8);
        x.turn(0);
        return x;
    }

    static void threeThousandSteps() {
        Due.of("A TURN that would take more than 3,000 .. ends the task as it stands there, with kind 24");
        Sleepers below = used(2999, "", "");
        task(below, 0, 3, 0, 0, -1, 0, 0, 1, 0);
        Due.due("2,999", below.count(9), 2999);
        Sleepers at = used(3000, "", "");
        task(at, 0, 3, 0, 0, -1, 0, 0, 1, 0);
        Due.due("3,000", at.count(9), 3000);
        Sleepers above = used(3001, "", "");
        task(above, 0, 3, 24, 0, -1, 0, 0, 1, 0);
        Due.due("3,000", above.count(9), 3000);
        Due.due("as it stands", above.cell(0, 0), 499);
        Sleepers endless = run("routine a(){while 1{}}");
        task(endless, 0, 3, 24);
        Due.due("3,000", endless.count(8), 3000);
    }

    static void eachKindOfStepIsRefused() {
        Due.of("would take more than 3,000: STATEMENTS, PARTS and WAITS");
        puts(used(2998, "put 1;", ""), 1);
        Sleepers part = used(2999, "put 1;", "");
        puts(part);
        task(part, 0, 3, 24);
        Sleepers statement = used(3000, "put 1;", "");
        puts(statement);
        task(statement, 0, 3, 24);
        task(used(2999, "fail 5;", ""), 0, 3, 5);
        task(used(3000, "fail 5;", ""), 0, 3, 24);
        task(used(2998, "return 5;", ""), 0, 3, 0, 5);
        task(used(2999, "return 5;", ""), 0, 3, 24, 0);
        task(used(2998, "while 0{}", ""), 0, 3, 0);
        task(used(2999, "while 0{}", ""), 0, 3, 24);
        Sleepers wait = used(2998, "wait letter 1;", "");
        task(wait, 0, 0);
        Due.due("taken", wait.count(10), 0);
        Sleepers refused = used(2999, "wait letter 1;", "");
        task(refused, 0, 3, 24);
        Due.due("not taken", refused.count(10), 1);
        Sleepers number = used(2998, "wait tick 1;", "");
        task(number, 0, 3, 24);
        number.tick(9);
        row(number);
    }

    static void threeThousandOfEachTurn() {
        Due.of("A TURN that would take more than 3,000: each TURN has its own");
        Sleepers x = begun("routine a(){while i<499{i=i+1;}wait yield;i=0;while i<498{i=i+1;}put i;put 1;put 2;}");
        x.rounds(2);
        task(x, 0, 3, 0);
        puts(x, 498, 1, 2);
        Due.due("of the first", x.count(8) - x.count(9), 2999);
        Due.due("of the second", x.count(9), 2 + 6 * 498 + 3 + 6);
    }

    static void hundredThousandSteps() {
        Due.of("or where 100,000 in all are taken, ends the task as it stands there, with kind 24");
        Sleepers x = Due.with("routine a(){while 1{}}routine b(n){while i<n{i=i+1;}}routine c(){try{}on e{}}routine d(){put 1;}");
        for (int i = 0; i < 33; i++) {
            begin(x, 0, i);
        }
        x.rounds(400);
        Due.due("99,000", x.count(8), 99000);
        x.begin(1, 166, 0, 0, 0);
        x.turn(0);
        task(x, 33, 3, 0);
        Due.due("99,999", x.count(8), 99999);
        begin(x, 2, 34);
        x.turn(0);
        task(x, 34, 3, 0);
        Due.due("100,000", x.count(8), 100000);
        Due.due("of the latest", x.count(9), 1);
        begin(x, 2, 35);
        x.turn(0);
        task(x, 35, 3, 24);
        Due.due("100,000", x.count(8), 100000);
        Due.due("of the latest", x.count(9), 0);
        begin(x, 3, 36);
        x.turn(0);
        puts(x);
        // In the midst of a TURN.
        Sleepers y = Due.with("routine a(){while 1{}}routine b(n){while i<n{i=i+1;}}routine d(){put 1;}");
        for (int i = 0; i < 33; i++) {
            begin(y, 0, i);
        }
        y.rounds(400);
        y.begin(1, 166, 0, 0, 0);
        y.turn(0);
        begin(y, 2, 34);
        y.turn(0);
        task(y, 34, 3, 24);
        puts(y);
        Due.due("of the latest", y.count(9), 1);
        // A new program does not begin to count anew.
        Due.program(y, "routine d(){put 1;}");
        begin(y, 0, 0);
        y.turn(0);
        task(y, 0, 3, 24);
        puts(y);
    }

    static void noFinishIsDone() {
        Due.of("with kind 24: no finish is done");
        Sleepers x = run("routine a(){try{try{while 1{}}on e{put 1;}finish{put 2;}}on e{put 3;}finish{put 4;}}");
        task(x, 0, 3, 24, 0);
        puts(x);
        // Nor does a CANCEL or a return go on.
        Sleepers y = run("routine a(){try{return 5;}finish{while 1{}}}");
        task(y, 0, 3, 24, 0);
        Sleepers z = run("routine a(){try{try{wait letter 0;}finish{while 1{}}}finish{put 1;}}");
        z.cancel(0);
        z.turn(0);
        task(z, 0, 3, 24, 0, -1, 0, 1, 2, 1);
        puts(z);
    }

    static void wornOutLetsGo() {
        Due.of("(what its wait began, if it was beginning one, is LET GO)");
        Sleepers x = used(2997, "wait both(child k(),yield);", "routine k(){put 1;}");
        task(x, 0, 3, 24);
        task(x, 1, 3, 22, 0, 0, 1, 0, 0, 1);
        row(x);
        Sleepers y = used(2997, "wait both(letter 0,yield);", "");
        task(y, 0, 3, 24);
        noneStands(y);
        Sleepers z = used(2997, "wait both(letter 1,yield);", "");
        task(z, 0, 3, 24);
        Due.due("it was taken", z.count(10), 0);
        Due.due("but is not noted as LOST", z.count(6), 0);
        Sleepers w = used(2997, "wait both(yield,yield);", "");
        task(w, 0, 3, 24);
        row(w);
        Sleepers v = used(2997, "wait both(yield);", "");
        task(v, 0, 0);
        row(v, 0);
    }
}
