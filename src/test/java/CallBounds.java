import java.util.function.IntUnaryOperator;

/**
 * The sentences of promises 8 to 21 that name a bound, something empty or full, what is not there
 * or what is refused: each has a test of its own, at the bound, one below and one above it.
 */
public final class CallBounds extends Runs {
    public static void main(String[] args) {
        noneIsMinusOne();
        beginGives();
        beginZerosForNone();
        beginWithoutAParent();
        beginNoSuchRoutine();
        beginTwoHundred();
        turnOfTheKth();
        turnLeavesTheRow();
        turnNoneSuch();
        roundsAtMost();
        roundsWhileThereIsOne();
        roundsAnotherN();
        letterIsTaken();
        letterLies();
        letterNoSuchBox();
        letterFifty();
        tickGrows();
        tickByTick();
        tickInOrder();
        tickAnotherN();
        cancelTells();
        cancelNoneSuch();
        taskWhere();
        taskHowItEnded();
        taskReturned();
        taskParent();
        taskRoutine();
        taskWait();
        taskTurns();
        taskWasCancelled();
        taskNoneSuch();
        cellAsItIs();
        cellNoneSuch();
        rowOfTheKth();
        putOfTheIth();
        putThreeHundred();
        lostOfTheIth();
        lostOfAll();
        boxOfTheKth();
        boxWithout();
        standsLongestFirst();
        standsNone();
        countOfTexts();
        countOfTasks();
        countOfBooks();
        countOfTheClock();
        countOfSteps();
        countOfLetters();
        countOfSigns();
        countAnother();
        refusedCallsChangeNothing();
        askingChangesNothing();
        Due.end();
    }

    static final int MIN = Integer.MIN_VALUE;
    static final int MAX = Integer.MAX_VALUE;
    static final String FILL = "routine k(){}routine f(n){while i<n{i=i+1;wait first(yield,child k());}}";

    /** Numbers that are below 0, or above what anything may have. */
    static final int[] OUT = {MIN, MIN + 1, -2, -1, 100000, MAX - 1, MAX};

    static void outside(String what, IntUnaryOperator call, int wanted) {
        for (int n : OUT) {
            Due.due(what + " of " + n, call.applyAsInt(n), wanted);
        }
    }

    static void outsideThrows(String what, IntUnaryOperator call) {
        for (int n : OUT) {
            Due.none(what + " of " + n, () -> call.applyAsInt(n));
        }
    }

    static void noneIsMinusOne() {
        Due.of("The constants: NONE = -1");
        Due.due("NONE", Sleepers.NONE, -1);
    }

    static void beginGives() {
        Due.of("Promise 8: with a, b, c, d for its NAMES in ( )");
        Sleepers x = Due.with("routine o(){p=p;q=q;r=r;s=s;}routine p(a){}routine q(a,b){}routine r(a,b,c){}routine s(a,b,c,d){}routine t(a,b,c,d,e){}");
        for (int i = 0; i < 6; i++) {
            Due.due("begin", x.begin(i, MIN, MAX, -1, 7), i);
        }
        int[] given = {MIN, MAX, -1, 7};
        for (int i = 1; i < 6; i++) {
            for (int k = 0; k < i && k < 4; k++) {
                Due.due("cell " + k + " of " + i + " NAMES", x.cell(i, k), given[k]);
            }
        }
    }

    static void beginZerosForNone() {
        Due.of("Promise 8: (0s for none)");
        Sleepers x = Due.with("routine o(){p=q;r=s;}routine p(a){b=c;d=1;}routine r(a,b,c){d=1;}routine t(a,b,c,d,e){f=1;}routine q(a,b){c=d;}");
        x.begin(0, 1, 2, 3, 4);
        x.begin(1, 1, 2, 3, 4);
        x.begin(2, 1, 2, 3, 4);
        x.begin(3, 1, 2, 3, 4);
        x.begin(4, 1, 2, 3, 4);
        Due.row("two NAMES", k -> x.cell(4, k), 1, 2, 0, 0);
        Due.row("no NAME", k -> x.cell(0, k), 0, 0, 0, 0);
        Due.row("one NAME", k -> x.cell(1, k), 1, 0, 0, 0);
        Due.row("three NAMES", k -> x.cell(2, k), 1, 2, 3, 0);
        Due.row("five NAMES", k -> x.cell(3, k), 1, 2, 3, 4, 0, 0);
    }

    static void beginWithoutAParent() {
        Due.of("Promise 8: A task of a routine begins .. without a parent: its number");
        Sleepers x = Due.with("routine a(){wait child b();}routine b(){}");
        begin(x, 0, 0);
        begin(x, 1, 1);
        Due.due("parent", x.task(1, 3), -1);
        row(x, 0, 1);
        x.turn(0);
        begin(x, 1, 3);
        Due.due("parent", x.task(3, 3), -1);
        row(x, 1, 2, 3);
    }

    static void beginNoSuchRoutine() {
        Due.of("Promise 8: NONE: no such routine");
        Sleepers x = Due.with(FILL);
        outside("begin", n -> x.begin(n, 0, 0, 0, 0), -1);
        Due.due("one behind the last", x.begin(2, 0, 0, 0, 0), -1);
        Due.due("none began", x.count(1), 0);
        Due.due("the last", x.begin(1, 0, 0, 0, 0), 0);
    }

    static void beginTwoHundred() {
        Due.of("Promise 8: NONE: .. 200 are there");
        Sleepers x = Due.with(FILL);
        for (int i = 0; i < 200; i++) {
            begin(x, 0, i);
        }
        begin(x, 0, -1);
        begin(x, 1, -1);
        Due.due("tasks", x.count(1), 200);
        Due.due("all in the row", x.count(3), 200);
        Due.due("the last", x.row(199), 199);
        Due.due("no further", x.row(200), -1);
        Due.due("rounds", x.rounds(400), 200);
        begin(x, 0, -1);
    }

    static void turnOfTheKth() {
        Due.of("Promise 9: A TURN of the k-th in the ROW, 0 the first .. the task");
        Sleepers x = Due.with("routine a(n){put n;}");
        for (int i = 0; i < 4; i++) {
            x.begin(0, 10 + i, 0, 0, 0);
        }
        Due.due("the last", x.turn(3), 3);
        Due.due("one in the midst", x.turn(1), 1);
        Due.due("the first", x.turn(0), 0);
        Due.due("the only one", x.turn(0), 2);
        puts(x, 13, 11, 10, 12);
    }

    static void turnLeavesTheRow() {
        Due.of("Promise 9: which leaves it");
        Sleepers x = Due.with("routine a(){wait letter 0;}routine b(){wait yield;}");
        begin(x, 0, 0);
        begin(x, 1, 1);
        begin(x, 0, 2);
        x.turn(1);
        row(x, 0, 2, 1);
        x.turn(1);
        row(x, 0, 1);
        x.turn(1);
        row(x, 0);
        x.turn(0);
        row(x);
    }

    static void turnNoneSuch() {
        Due.of("Promise 9: NONE: none such");
        Sleepers x = Due.with("routine a(){wait yield;}");
        Due.due("an empty row", x.turn(0), -1);
        begin(x, 0, 0);
        begin(x, 0, 1);
        Due.due("one behind the last", x.turn(2), -1);
        outside("turn", x::turn, -1);
        Due.due("no TURN was had", x.task(0, 6) + x.task(1, 6), 0);
        Due.due("STEPS", x.count(8), 0);
        Due.due("the last", x.turn(1), 1);
        // The STEPS of the latest TURN stay.
        x.turn(5);
        Due.due("STEPS", x.count(9), 2);
    }

    static void roundsAtMost() {
        Due.of("Promise 10: TURNS of the first in the ROW, n (0 .. 400) at most");
        Sleepers x = Due.with("routine a(){while 1{wait yield;}}");
        begin(x, 0, 0);
        int turns = 0;
        for (int n : new int[] {0, 1, 2, 399, 400}) {
            Due.due("rounds " + n, x.rounds(n), n);
            turns += n;
            Due.due("TURNS", x.task(0, 6), turns);
        }
    }

    static void roundsWhileThereIsOne() {
        Due.of("Promise 10: while there is one: how many");
        Sleepers x = Due.with("routine a(){wait yield;}");
        Due.due("none", x.rounds(400), 0);
        for (int i = 0; i < 3; i++) {
            begin(x, 0, i);
        }
        Due.due("one below", x.rounds(5), 5);
        row(x, 2);
        Due.due("as many as there are", x.rounds(400), 1);
        Due.due("none any more", x.rounds(1), 0);
    }

    static void roundsAnotherN() {
        Due.of("Promise 10: NONE for another n");
        Sleepers x = Due.with("routine a(){while 1{wait yield;}}");
        Due.due("with an empty row", x.rounds(401), -1);
        begin(x, 0, 0);
        Due.due("401", x.rounds(401), -1);
        outside("rounds", x::rounds, -1);
        Due.due("no TURN was had", x.task(0, 6), 0);
        Due.due("400", x.rounds(400), 400);
    }

    static void letterIsTaken() {
        Due.of("Promise 11: A letter comes to a box: the task whose wait takes it");
        Sleepers x = Due.with("routine a(){b=wait letter 0;put b;}routine c(){b=wait letter 7;put b;}");
        begin(x, 0, 0);
        begin(x, 1, 1);
        begin(x, 1, 2);
        x.rounds(3);
        Due.due("of the first box", x.letter(0, MIN), 0);
        Due.due("of the last box", x.letter(7, MAX), 1);
        Due.due("of the last box", x.letter(7, -2), 2);
        Due.due("none lies", x.count(10), 0);
        x.rounds(3);
        puts(x, MIN, MAX, -2);
    }

    static void letterLies() {
        Due.of("Promise 11: -1: it lies there");
        Sleepers x = run("routine a(){wait letter 3;}");
        for (int b = 0; b < 8; b++) {
            Due.due("letter " + b, x.letter(b, 10 + b), b == 3 ? 0 : -1);
        }
        Due.row("box", b -> x.box(b, 0), 10, 11, 12, 0, 14, 15, 16, 17);
        // It is not taken by one whose turn it is not yet.
        Sleepers y = Due.with("routine a(){wait letter 0;}");
        begin(y, 0, 0);
        Due.due("letter", y.letter(0, 5), -1);
        Due.due("without a program", new Sleepers().letter(0, 5), -1);
    }

    static void letterNoSuchBox() {
        Due.of("Promise 11: -2: no such box");
        Sleepers x = Due.with("routine a(){}");
        outside("letter", b -> x.letter(b, 1), -2);
        Due.due("box 8", x.letter(8, 1), -2);
        Due.due("none lies", x.count(10), 0);
        Due.due("box 7", x.letter(7, 1), -1);
        Due.due("box 0", x.letter(0, 1), -1);
    }

    static void letterFifty() {
        Due.of("Promise 11: -2: .. 50 lie there");
        Sleepers x = Due.with("routine a(){b=wait letter 0;put b;}");
        for (int i = 0; i < 50; i++) {
            Due.due("letter " + i, x.letter(0, 100 + i), -1);
        }
        Due.due("the 51st", x.letter(0, 200), -2);
        Due.due("lying", x.count(10), 50);
        Due.due("the last", x.box(0, 49), 149);
        Due.due("no 51st", x.box(0, 50), 0);
        Due.due("other boxes have room", x.letter(1, 1), -1);
        begin(x, 0, 0);
        x.turn(0);
        Due.due("49 lie there", x.count(10), 50);
        Due.due("one more", x.letter(0, 201), -1);
        Due.due("one too many", x.letter(0, 202), -2);
        Due.due("the first", x.box(0, 0), 101);
        Due.due("the last", x.box(0, 49), 201);
        x.turn(0);
        puts(x, 100);
        // All eight can be full, each with its own.
        Sleepers y = Due.with("routine a(){b=wait letter 7;put b;}");
        for (int i = 0; i < 400; i++) {
            y.letter(i % 8, i);
        }
        Due.due("lying", y.count(10), 400);
        for (int b = 0; b < 8; b++) {
            Due.due("one too many", y.letter(b, 1), -2);
            Due.due("the first", y.box(b, 0), b);
            Due.due("the last", y.box(b, 49), 392 + b);
        }
        begin(y, 0, 0);
        y.rounds(2);
        puts(y, 7);
        Due.due("the first", y.box(7, 0), 15);
        Due.due("the last", y.box(7, 48), 399);
        Due.due("no further", y.box(7, 49), 0);
    }

    static void tickGrows() {
        Due.of("Promise 12: The CLOCK grows by n (0 .. 10000) .. the CLOCK");
        Sleepers x = new Sleepers();
        Due.due("0", x.tick(0), 0);
        Due.due("1", x.tick(1), 1);
        Due.due("9,999", x.tick(9999), 10000);
        Due.due("10,000", x.tick(10000), 20000);
        Due.due("0", x.tick(0), 20000);
        Sleepers y = new Sleepers();
        for (int i = 1; i <= 500; i++) {
            Due.due("10,000 each", y.tick(10000), 10000 * i);
        }
    }

    static void tickByTick() {
        Due.of("Promise 12: tick by tick: of each those ticks that are due COME");
        Sleepers x = Due.with("routine a(n){wait tick n;}");
        for (int n : new int[] {3, 1, 10000, 2, 1, 9999}) {
            x.begin(0, n, 0, 0, 0);
        }
        x.rounds(9);
        x.tick(0);
        row(x);
        x.tick(9999);
        row(x, 1, 4, 3, 0, 5);
        x.tick(1);
        row(x, 1, 4, 3, 0, 5, 2);
        // An earlier tick lets go a later one.
        Sleepers y = run("routine a(){try{wait first(within 2 letter 0,tick 3);}on e{put e;}}");
        y.tick(10);
        row(y, 0);
        y.turn(0);
        puts(y, 21);
    }

    static void tickInOrder() {
        Due.of("Promise 12: of one tick in the order in which they began");
        Sleepers x = Due.with("routine a(n){wait tick n;}routine b(n){try{wait within n letter 0;}on e{}}");
        x.begin(0, 4, 0, 0, 0);
        x.begin(1, 4, 0, 0, 0);
        x.begin(0, 4, 0, 0, 0);
        x.turn(2);
        x.turn(1);
        x.turn(0);
        x.tick(3);
        x.begin(0, 1, 0, 0, 0);
        x.turn(0);
        row(x);
        x.tick(1);
        row(x, 2, 1, 0, 3);
        // What one lets go does not come.
        Sleepers y = run("routine a(){b=1;b=wait first(tick 2,within 2 letter 0);put b;}");
        y.tick(2);
        row(y, 0);
        y.turn(0);
        puts(y, 0);
    }

    static void tickAnotherN() {
        Due.of("Promise 12: NONE for another n");
        Sleepers x = run("routine a(){wait tick 1;}");
        Due.due("10,001", x.tick(10001), -1);
        outside("tick", x::tick, -1);
        Due.due("the CLOCK stays", x.count(7), 0);
        row(x);
        Due.due("10,000", x.tick(10000), 10000);
    }

    static void cancelTells() {
        Due.of("Promise 13: A task is CANCELLED: true");
        Sleepers x = Due.with("routine a(){wait letter 0;}routine b(){wait yield;}routine c(){wait first(yield,child a());}routine d(){wait first(letter 1,child a());}");
        begin(x, 0, 0);
        begin(x, 0, 1);
        begin(x, 1, 2);
        begin(x, 3, 3);
        x.rounds(1);
        Due.due("in a wait", x.cancel(0), true);
        Due.due("without a TURN", x.cancel(1), true);
        x.turn(0);
        Due.due("in the row behind a wait", x.cancel(2), true);
        x.rounds(9);
        x.letter(1, 1);
        task(x, 3, 2);
        Due.due("whose children are waited for", x.cancel(3), true);
        Due.row("CANCELLED", t -> x.task(t, 7), 1, 1, 1, 1, 1);
    }

    static void cancelNoneSuch() {
        Due.of("Promise 13: false: none such, it has ended, or was CANCELLED");
        Sleepers x = Due.with("routine a(){wait letter 0;}routine b(){}routine c(){fail 1;}");
        Due.due("no task is there", x.cancel(0), false);
        begin(x, 0, 0);
        begin(x, 1, 1);
        begin(x, 2, 2);
        outside("cancel", t -> x.cancel(t) ? 1 : 0, 0);
        Due.due("one behind the last", x.cancel(3), false);
        x.rounds(3);
        Due.due("ended well", x.cancel(1), false);
        Due.due("failed", x.cancel(2), false);
        Due.row("none CANCELLED", t -> x.task(t, 7), 0, 0, 0);
        Due.due("the first", x.cancel(0), true);
        Due.due("CANCELLED", x.cancel(0), false);
        x.rounds(3);
        Due.due("CANCELLED and ended", x.cancel(0), false);
    }

    static void taskWhere() {
        Due.of("Promise 14: what 0: 0 in the ROW, 1 in a wait, 2 in a wait whose children are waited for, 3 ended");
        Sleepers x = Due.with("routine a(){wait first(letter 0,child k());wait yield;}routine k(){wait letter 1;}");
        begin(x, 0, 0);
        Due.due("ahead of its first TURN", x.task(0, 0), 0);
        x.rounds(2);
        Due.due("in a wait", x.task(0, 0), 1);
        Due.due("its child, too", x.task(1, 0), 1);
        x.letter(0, 1);
        Due.due("its children are waited for", x.task(0, 0), 2);
        Due.due("the child comes to the row", x.task(1, 0), 0);
        x.turn(0);
        Due.due("the child has ended", x.task(1, 0), 3);
        Due.due("in the row", x.task(0, 0), 0);
        x.turn(0);
        Due.due("at once in the row again", x.task(0, 0), 0);
        x.turn(0);
        Due.due("ended", x.task(0, 0), 3);
    }

    static void taskHowItEnded() {
        Due.of("Promise 14: what 1: how it ended (0 well, a failure's kind, 22 CANCELLED; 0 ahead)");
        Sleepers x = Due.with("routine a(){wait letter 0;}routine b(n){return n;}routine c(){fail 9;}routine d(){put 1/0;}routine e(){while 1{}}");
        begin(x, 0, 0);
        x.begin(1, 5, 0, 0, 0);
        begin(x, 2, 2);
        begin(x, 3, 3);
        begin(x, 4, 4);
        begin(x, 0, 5);
        Due.row("ahead", t -> x.task(t, 1), 0, 0, 0, 0, 0, 0);
        x.rounds(5);
        x.cancel(0);
        x.cancel(5);
        Due.row("behind", t -> x.task(t, 1), 0, 0, 9, 11, 24, 22);
        x.rounds(9);
        Due.due("CANCELLED", x.task(0, 1), 22);
    }

    static void taskReturned() {
        Due.of("Promise 14: what 2: what it returned");
        Sleepers x = Due.with("routine a(n){try{return n;}finish{wait letter 0;}}routine b(){}routine c(){try{return 5;}finish{fail 1;}}");
        x.begin(0, MIN, 0, 0, 0);
        x.begin(0, MAX, 0, 0, 0);
        begin(x, 1, 2);
        begin(x, 2, 3);
        x.rounds(4);
        Due.row("ahead of its end, without a return, and failed", t -> x.task(t, 2), 0, 0, 0, 0);
        x.letter(0, 1);
        x.letter(0, 1);
        x.rounds(2);
        Due.row("behind", t -> x.task(t, 2), MIN, MAX, 0, 0);
    }

    static void taskParent() {
        Due.of("Promise 14: what 3: its parent (NONE)");
        Sleepers x = run("routine a(){wait child b();}routine b(){wait child c();}routine c(){wait letter 0;}");
        begin(x, 2, 3);
        Due.row("parents", t -> x.task(t, 3), -1, 0, 1, -1);
        x.letter(0, 1);
        x.rounds(9);
        Due.row("parents of those that ended", t -> x.task(t, 3), -1, 0, 1, -1);
    }

    static void taskRoutine() {
        Due.of("Promise 14: what 4: its routine");
        Sleepers x = Due.with("routine a(){wait child c();}routine b(){}routine c(){}");
        begin(x, 2, 0);
        begin(x, 1, 1);
        begin(x, 0, 2);
        x.rounds(9);
        Due.row("routines", t -> x.task(t, 4), 2, 1, 0, 2);
    }

    static void taskWait() {
        Due.of("Promise 14: what 5: the wait it is in, or behind which it goes on (STATE; 0 ahead of any)");
        Sleepers x = Due.with("routine a(){" + "wait letter 0;".repeat(16) + "}");
        begin(x, 0, 0);
        Due.due("ahead of any", x.task(0, 5), 0);
        for (int k = 1; k <= 16; k++) {
            x.turn(0);
            Due.due("in it", x.task(0, 5), k);
            x.letter(0, 1);
            Due.due("behind it", x.task(0, 5), k);
        }
        Sleepers y = Due.with("routine a(){if 0{wait yield;}wait yield;}");
        begin(y, 0, 0);
        y.turn(0);
        Due.due("the second as the first", y.task(0, 5), 2);
    }

    static void taskTurns() {
        Due.of("Promise 14: what 6: TURNS");
        Sleepers x = Due.with("routine a(){while 1{wait yield;}}");
        begin(x, 0, 0);
        Due.due("none", x.task(0, 6), 0);
        x.turn(0);
        Due.due("one", x.task(0, 6), 1);
        x.rounds(400);
        Due.due("401", x.task(0, 6), 401);
        begin(x, 0, 1);
        x.cancel(1);
        Due.due("none, ended", x.task(1, 6), 0);
    }

    static void taskWasCancelled() {
        Due.of("Promise 14: 7: 1 if it was CANCELLED");
        Sleepers x = Due.with("routine a(){wait letter 0;}routine b(){wait child a();}");
        begin(x, 0, 0);
        begin(x, 1, 1);
        x.rounds(3);
        Due.row("ahead", t -> x.task(t, 7), 0, 0, 0);
        x.cancel(2);
        x.rounds(9);
        // Its parent has failed with 22, but was not CANCELLED.
        Due.row("behind", t -> x.task(t, 7), 0, 0, 1);
        Due.due("how", x.task(1, 1), 22);
        x.cancel(0);
        Due.due("at once", x.task(0, 7), 1);
        x.rounds(9);
        Due.due("for ever", x.task(0, 7), 1);
    }

    static void taskNoneSuch() {
        Due.of("Promise 14: NoSuchElementException: none such");
        Sleepers x = Due.with("routine a(){}");
        Due.none("no task is there", () -> x.task(0, 0));
        begin(x, 0, 0);
        begin(x, 0, 1);
        Due.due("the last", x.task(1, 7), 0);
        Due.none("one behind the last", () -> x.task(2, 0));
        Due.none("what 8", () -> x.task(0, 8));
        outsideThrows("task", t -> x.task(t, 0));
        outsideThrows("what", k -> x.task(0, k));
        Due.due("program", Due.program(x, "routine a(){}"), 0);
        Due.none("an old one", () -> x.task(0, 0));
    }

    static void cellAsItIs() {
        Due.of("Promise 15: A CELL of a task as it is");
        Sleepers x = Due.with("routine a(n){m=n+1;wait letter 0;m=m+1;n=0;}");
        x.begin(0, 5, 0, 0, 0);
        Due.row("ahead", k -> x.cell(0, k), 5, 0);
        x.turn(0);
        Due.row("in its wait", k -> x.cell(0, k), 5, 6);
        x.letter(0, 1);
        x.turn(0);
        Due.row("ended", k -> x.cell(0, k), 0, 7);
    }

    static void cellNoneSuch() {
        Due.of("Promise 15: NoSuchElementException: none such");
        String twelve = "c0,c1,c2,c3,c4,c5,c6,c7,c8,c9,c10,c11";
        Sleepers x = Due.with("routine a(" + twelve + "){c11=3;}routine b(n){}routine c(){}");
        Due.none("no task is there", () -> x.cell(0, 0));
        begin(x, 0, 0);
        begin(x, 1, 1);
        begin(x, 2, 2);
        x.turn(0);
        Due.due("the last of twelve", x.cell(0, 11), 3);
        Due.none("one behind the last", () -> x.cell(0, 12));
        Due.due("the only one", x.cell(1, 0), 0);
        Due.none("one behind it", () -> x.cell(1, 1));
        Due.none("of a task without", () -> x.cell(2, 0));
        Due.none("one behind the last task", () -> x.cell(3, 0));
        outsideThrows("cell", k -> x.cell(0, k));
        outsideThrows("cell of a task", t -> x.cell(t, 0));
    }

    static void rowOfTheKth() {
        Due.of("Promise 16: The k-th in the ROW; NONE");
        Sleepers x = Due.with("routine a(){wait yield;}");
        Due.due("an empty row", x.row(0), -1);
        for (int i = 0; i < 3; i++) {
            begin(x, 0, i);
        }
        x.turn(1);
        Due.row("row", x::row, 0, 2, 1, -1);
        outside("row", x::row, -1);
    }

    static void putOfTheIth() {
        Due.of("Promise 17: Of the i-th put, what 0: the task, 1: the number; NONE if there is none such");
        Sleepers x = Due.with("routine a(n){put n;}");
        Due.due("none", x.put(0, 0), -1);
        Due.due("none", x.put(0, 1), -1);
        x.begin(0, MIN, 0, 0, 0);
        x.begin(0, MAX, 0, 0, 0);
        x.turn(1);
        x.turn(0);
        Due.row("task", i -> x.put(i, 0), 1, 0, -1);
        Due.row("number", i -> x.put(i, 1), MAX, MIN, -1);
        Due.due("what 2", x.put(0, 2), -1);
        outside("put", i -> x.put(i, 1), -1);
        outside("what", k -> x.put(0, k), -1);
    }

    static void putThreeHundred() {
        Due.of("Promise 17: (the first 300 are told)");
        Sleepers x = Due.with("routine a(n){while n<301{n=n+1;put 1000+n;wait yield;}}");
        x.begin(0, 0, 0, 0, 0);
        x.rounds(299);
        Due.due("the 299th", x.put(298, 1), 1299);
        Due.due("no 300th", x.put(299, 1), -1);
        x.turn(0);
        Due.due("the 300th", x.put(299, 1), 1300);
        Due.due("its task", x.put(299, 0), 0);
        x.turn(0);
        Due.due("the 301st", x.put(300, 1), -1);
        Due.due("its task", x.put(300, 0), -1);
        Due.due("the 300th", x.put(299, 1), 1300);
        Due.due("the first", x.put(0, 1), 1001);
    }

    static void lostOfTheIth() {
        Due.of("Promise 18: Of the i-th value that was LOST, what 0: the task, 1: the value; NONE likewise");
        Sleepers x = Due.with("routine a(){wait letter 0;}");
        Due.due("none", x.lost(0, 0), -1);
        begin(x, 0, 0);
        begin(x, 0, 1);
        x.rounds(2);
        x.letter(0, MIN);
        x.letter(0, MAX);
        x.cancel(1);
        x.cancel(0);
        Due.row("task", i -> x.lost(i, 0), 1, 0, -1);
        Due.row("value", i -> x.lost(i, 1), MAX, MIN, -1);
        Due.due("what 2", x.lost(0, 2), -1);
        outside("lost", i -> x.lost(i, 1), -1);
        outside("what", k -> x.lost(0, k), -1);
    }

    static void lostOfAll() {
        Due.of("Promise 18: of as many as there can be tasks");
        Sleepers x = Due.with("routine a(){wait yield;}");
        for (int i = 0; i < 200; i++) {
            begin(x, 0, i);
        }
        x.rounds(200);
        for (int i = 199; i >= 0; i--) {
            x.cancel(i);
        }
        Due.due("lost", x.count(6), 200);
        Due.due("the first", x.lost(0, 0), 199);
        Due.due("the last", x.lost(199, 0), 0);
        Due.due("its value", x.lost(199, 1), 0);
        Due.due("no further", x.lost(200, 0), -1);
    }

    static void boxOfTheKth() {
        Due.of("Promise 19: The k-th letter that lies in a box");
        Sleepers x = Due.with("routine a(){wait letter 7;}");
        int[] letters = {MIN, -1, 0, MAX};
        for (int v : letters) {
            x.letter(7, v);
        }
        Due.row("box", k -> x.box(7, k), letters);
        begin(x, 0, 0);
        x.turn(0);
        Due.row("box", k -> x.box(7, k), -1, 0, MAX, 0);
    }

    static void boxWithout() {
        Due.of("Promise 19: 0 without");
        Sleepers x = Due.with("routine a(){}");
        Due.due("an empty box", x.box(0, 0), 0);
        x.letter(0, 5);
        x.letter(1, 6);
        x.letter(7, 7);
        Due.due("one behind the last", x.box(0, 1), 0);
        Due.due("box 8", x.box(8, 0), 0);
        outside("box", k -> x.box(0, k), 0);
        outside("box", b -> x.box(b, 0), 0);
        for (int k = 1; k < 60; k++) {
            Due.due("nothing of another box", x.box(0, k), 0);
        }
    }

    static void standsLongestFirst() {
        Due.of("Promise 20: The k-th task whose wait stands for a box, the longest one first");
        Sleepers x = Due.with("routine a(){wait letter 0;wait letter 0;}routine b(){wait letter 7;}");
        for (int i = 0; i < 3; i++) {
            begin(x, 0, i);
        }
        begin(x, 1, 3);
        x.rounds(4);
        Due.row("stands", k -> x.stands(0, k), 0, 1, 2, -1);
        x.letter(0, 1);
        Due.row("stands", k -> x.stands(0, k), 1, 2, -1);
        x.turn(0);
        Due.row("stands", k -> x.stands(0, k), 1, 2, 0, -1);
        x.cancel(2);
        Due.row("stands", k -> x.stands(0, k), 1, 0, -1);
        Due.row("stands for the last box", k -> x.stands(7, k), 3, -1);
        // As many as there can be.
        Sleepers y = Due.with("routine a(){wait letter 0;}");
        for (int i = 0; i < 200; i++) {
            begin(y, 0, i);
        }
        y.rounds(200);
        Due.due("the last", y.stands(0, 199), 199);
        Due.due("no further", y.stands(0, 200), -1);
    }

    static void standsNone() {
        Due.of("Promise 20: NONE");
        Sleepers x = run("routine a(){wait letter 0;}");
        Due.due("one behind the last", x.stands(0, 1), -1);
        Due.due("another box", x.stands(1, 0), -1);
        Due.due("box 8", x.stands(8, 0), -1);
        outside("stands", k -> x.stands(0, k), -1);
        outside("stands for", b -> x.stands(b, 0), -1);
        x.letter(0, 1);
        Due.due("one that has its letter", x.stands(0, 0), -1);
    }

    static void countOfTexts() {
        Due.of("Promise 21: What 0: routines");
        Sleepers x = new Sleepers();
        Due.due("none", x.count(0), 0);
        Due.program(x, FILL);
        Due.due("two", x.count(0), 2);
        Due.program(x, ";");
        Due.due("two still", x.count(0), 2);
        Due.program(x, "");
        Due.due("none", x.count(0), 0);
    }

    static void countOfTasks() {
        Due.of("Promise 21: 1: tasks, 2: those that have ended, 3: in the ROW, 4: in waits");
        Sleepers x = Due.with("routine a(){wait first(letter 0,child k());}routine k(){wait letter 1;}");
        begin(x, 0, 0);
        begin(x, 0, 1);
        Due.row("begun", k -> x.count(1 + k), 2, 0, 2, 0);
        x.turn(0);
        Due.row("one waits", k -> x.count(1 + k), 3, 0, 2, 1);
        x.rounds(9);
        Due.row("all wait", k -> x.count(1 + k), 4, 0, 0, 4);
        x.letter(0, 1);
        // One waits for its child, which stands in the ROW.
        Due.row("one goes on", k -> x.count(1 + k), 4, 0, 1, 3);
        x.turn(0);
        Due.row("one ends", k -> x.count(1 + k), 4, 1, 1, 2);
        x.letter(0, 1);
        x.rounds(9);
        Due.row("all end", k -> x.count(1 + k), 4, 4, 0, 0);
    }

    static void countOfBooks() {
        Due.of("Promise 21: 5: puts, 6: LOST");
        Sleepers x = Due.with("routine a(n){while i<n{i=i+1;put i;}wait yield;}");
        Due.row("none", k -> x.count(5 + k), 0, 0);
        x.begin(0, 299, 0, 0, 0);
        x.turn(0);
        Due.row("299", k -> x.count(5 + k), 299, 0);
        x.begin(0, 1, 0, 0, 0);
        x.turn(1);
        Due.row("300", k -> x.count(5 + k), 300, 0);
        x.begin(0, 1, 0, 0, 0);
        x.turn(2);
        Due.row("301, of which 300 are told", k -> x.count(5 + k), 301, 0);
        x.cancel(0);
        Due.row("one lost", k -> x.count(5 + k), 301, 1);
    }

    static void countOfTheClock() {
        Due.of("Promise 21: 7: the CLOCK");
        Sleepers x = new Sleepers();
        Due.due("0", x.count(7), 0);
        x.tick(10000);
        Due.due("10,000", x.count(7), 10000);
        x.tick(10001);
        Due.due("10,000", x.count(7), 10000);
    }

    static void countOfSteps() {
        Due.of("Promise 21: 8: STEPS in all, 9: of the latest TURN");
        Sleepers x = Due.with("routine a(){put 1;wait yield;}routine b(){}");
        Due.row("none", k -> x.count(8 + k), 0, 0);
        begin(x, 0, 0);
        begin(x, 1, 1);
        x.turn(0);
        Due.row("the first", k -> x.count(8 + k), 4, 4);
        x.turn(0);
        Due.row("one of none", k -> x.count(8 + k), 4, 0);
        x.begin(0, 0, 0, 0, 0);
        x.turn(1);
        Due.row("another", k -> x.count(8 + k), 8, 4);
        x.turn(9);
        x.rounds(0);
        x.tick(1);
        Due.row("no TURN", k -> x.count(8 + k), 8, 4);
    }

    static void countOfLetters() {
        Due.of("Promise 21: 10: letters that lie in boxes");
        Sleepers x = run("routine a(){wait letter 0;wait letter 1;}");
        Due.due("none", x.count(10), 0);
        x.letter(0, 1);
        Due.due("one that is taken", x.count(10), 0);
        x.letter(0, 1);
        x.letter(1, 1);
        x.letter(7, 1);
        x.letter(8, 1);
        Due.due("of several boxes", x.count(10), 3);
        x.turn(0);
        Due.due("one is taken", x.count(10), 2);
    }

    static void countOfSigns() {
        Due.of("Promise 21: 11: signs on the TAPE");
        Sleepers x = new Sleepers();
        Due.due("none", x.count(11), 0);
        Due.feed(x, "ab\t c");
        Due.due("4", x.count(11), 4);
        x.named(0);
        Due.due("none", x.count(11), 0);
    }

    static void countAnother() {
        Due.of("Promise 21: NONE for another what");
        Sleepers x = new Sleepers();
        Due.due("12", x.count(12), -1);
        outside("count", x::count, -1);
        Due.due("11", x.count(11), 0);
    }

    /** One task in the ROW, one in a wait, one that waits for its child, one that has ended. */
    static Sleepers mixed() {
        Sleepers x = Due.with("routine a(n){put n;b=wait letter 0;}routine c(){wait first(letter 1,child k());}routine k(){wait tick 5;}routine d(){wait yield;}");
        x.begin(0, 4, 0, 0, 0);
        x.begin(1, 0, 0, 0, 0);
        x.begin(3, 0, 0, 0, 0);
        x.rounds(4);
        x.letter(1, 6);
        x.letter(2, 7);
        x.tick(3);
        x.cancel(2);
        Due.row("mixed", t -> x.task(t, 0), 1, 2, 0, 0);
        Due.feed(x, "ab");
        return x;
    }

    static void refusedCallsChangeNothing() {
        Due.of("a call that is refused (promises 5 to 21) leaves all as it was");
        Sleepers x = mixed();
        String ahead = all(x);
        int[] out = {MIN, -1, 401, MAX};
        for (int n : out) {
            x.begin(n, 1, 1, 1, 1);
            x.turn(n);
            x.rounds(n);
            x.letter(n, 1);
            x.tick(n < 0 ? n : n == MAX ? n : 10001);
            x.cancel(n);
            x.live(n, 0, 0);
            x.next(0, n, 0);
            x.row(n);
            x.put(n, 0);
            x.lost(n, 0);
            x.box(n, 0);
            x.stands(n, 0);
            x.count(n);
            Due.none("routine", () -> x.routine(n, 0));
            Due.none("task", () -> x.task(n, 0));
            Due.none("cell", () -> x.cell(0, n));
        }
        x.cancel(2);
        Due.due("all is as it was", all(x).equals(ahead), true);
    }

    static void askingChangesNothing() {
        Due.of("live, next, routine, task, cell, row, put, lost, box, stands, count tell, and change nothing");
        Sleepers x = mixed();
        String ahead = all(x);
        Due.due("all is as it was", all(x).equals(ahead), true);
        Sleepers y = mixed();
        Due.due("rounds", x.rounds(9), 3);
        Due.due("without asking", y.rounds(9), 3);
        Due.due("all is the same", all(x).equals(all(y)), true);
    }
}
