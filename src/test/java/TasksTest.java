/** Promises 8 to 21: tasks, their TURNS, their waits, how they fail, end and are CANCELLED. */
public final class TasksTest extends Runs {
    public static void main(String[] args) {
        begins();
        turns();
        rounds();
        sums();
        steps();
        wornOut();
        wornOutInAll();
        flow();
        failures();
        returnsThroughFinishes();
        letters();
        boxesAreFull();
        ticks();
        atOnce();
        children();
        tooManyTasks();
        both();
        first();
        within();
        failuresInWaits();
        letGoInOrder();
        cancelledChains();
        cancels();
        lost();
        cancelsAndFinishes();
        books();
        states();
        Due.end();
    }

    static void begins() {
        Sleepers x = Due.with("routine p ( a , b , c , d , e ) { } routine q ( a ) { b = 1 ; c = 1 ; d = 1 ; }");
        Due.due("p", x.begin(0, 1, 2, 3, 4), 0);
        Due.due("q", x.begin(1, 7, 8, 9, 10), 1);
        Due.row("cells of p", k -> x.cell(0, k), 1, 2, 3, 4, 0);
        Due.row("cells of q", k -> x.cell(1, k), 7, 0, 0, 0);
        Due.none("no cell", () -> x.cell(1, 4));
        Due.none("cell -1", () -> x.cell(1, -1));
        Due.none("no task's cell", () -> x.cell(2, 0));
        Due.none("task -1's cell", () -> x.cell(-1, 0));
        Due.due("no routine", x.begin(2, 0, 0, 0, 0), -1);
        Due.due("routine -1", x.begin(-1, 0, 0, 0, 0), -1);
        task(x, 0, 0, 0, 0, -1, 0, 0, 0, 0);
        task(x, 1, 0, 0, 0, -1, 1, 0, 0, 0);
        Due.none("what 8", () -> x.task(0, 8));
        Due.none("what -1", () -> x.task(0, -1));
        Due.none("no task", () -> x.task(2, 0));
        Due.none("task -1", () -> x.task(-1, 0));
        row(x, 0, 1);
        Due.due("row -1", x.row(-1), -1);
        Due.due("row 2", x.row(2), -1);
        for (int i = 2; i < 200; i++) {
            begin(x, 1, i);
        }
        begin(x, 1, -1);
        Due.due("tasks", x.count(1), 200);
        x.rounds(400);
        begin(x, 1, -1);
    }

    static void turns() {
        Sleepers x = Due.with("routine r ( a ) { put a ; wait yield ; put a + 10 ; }");
        for (int i = 0; i < 3; i++) {
            x.begin(0, i, 0, 0, 0);
        }
        Due.due("turn 1", x.turn(1), 1);
        row(x, 0, 2, 1);
        Due.due("turn -1", x.turn(-1), -1);
        Due.due("turn 3", x.turn(3), -1);
        Due.due("turn 2", x.turn(2), 1);
        row(x, 0, 2);
        task(x, 1, 3, 0, 0, -1, 0, 1, 2, 0);
        puts(x, 1, 11);
        Due.due("turn 0", x.turn(0), 0);
        Due.due("turn 0", x.turn(0), 2);
        row(x, 0, 2);
        puts(x, 1, 11, 0, 2);
        Due.row("who put", i -> x.put(i, 0), 1, 1, 0, 2);
    }

    static void rounds() {
        Sleepers x = Due.with("routine r ( ) { while 1 { wait yield ; } }");
        Due.due("none", x.rounds(3), 0);
        begin(x, 0, 0);
        begin(x, 0, 1);
        Due.due("0", x.rounds(0), 0);
        Due.due("3", x.rounds(3), 3);
        row(x, 1, 0);
        Due.due("400", x.rounds(400), 400);
        Due.due("401", x.rounds(401), -1);
        Due.due("-1", x.rounds(-1), -1);
        Due.due("turns", x.task(0, 6) + x.task(1, 6), 403);
    }

    static void sums() {
        Sleepers x = run("routine r ( ) { m = 65536 * 32768 ; put m ; put m - 1 ; put m / - 1 ; put m % - 1 ; put - m ;"
                + " put - 7 / 2 ; put - 7 % 2 ; put 7 / - 2 ; put 7 % - 2 ; put 2 + 3 * 4 - 10 / 3 ; put 20 - 5 - 4 ; put 7 - ( 3 - 1 ) ;"
                + " put 1 < 2 ; put 2 < 1 ; put 1 + 1 = 2 ; put m < 1 ; put 100 / 10 / 5 ; put 999999999 * 999999999 ; put clock ; }");
        puts(x, Integer.MIN_VALUE, Integer.MAX_VALUE, Integer.MIN_VALUE, 0, Integer.MIN_VALUE,
                -3, -1, -3, 1, 11, 11, 5, 1, 0, 1, 1, 2, 999999999 * 999999999, 0);
    }

    static void steps() {
        Sleepers x = run("routine r ( ) { while i < 2 { i = i + 1 ; } put - ( i ) ; wait both ( tick 1 , within 2 letter 0 ) ; }");
        Due.due("of the turn", x.count(9), 9 + 6 + 4 + 7);
        Due.due("in all", x.count(8), 26);
        x.tick(2);
        Due.due("to its end", x.rounds(9), 1);
        Due.due("none", x.count(9), 0);
        Due.due("in all", x.count(8), 26);
        Sleepers y = run("routine r ( ) { try { if 1 { while 1 { break ; } } fail 2 ; } on e { return e ; } }");
        Due.due("of the turn", y.count(9), 9);
        Sleepers z = run("routine r ( a ) { if 0 { put 1 ; } else { } while i < 1 { i = 1 ; continue ; } try { } finish { put clock ; } }");
        Due.due("of the turn", z.count(9), 2 + 2 * 3 + 3 + 1 + 2);
        Sleepers w = run("routine k ( a , b ) { } routine r ( ) { }");
        w.begin(1, 0, 0, 0, 0);
        Due.due("no turn, none new", w.count(9), 0);
        Due.due("program", Due.program(w, "routine k ( a , b ) { wait child k ( 1 , - 2 ) ; }"), 0);
        begin(w, 0, 0);
        w.turn(0);
        Due.due("of a child", w.count(9), 2 + 3);
    }

    static void wornOut() {
        String loop = "routine r ( n ) { try { while i < n { i = i + 1 ; } } finish { put 5 ; } put 6 ; }";
        // try 1, 6 * 499 + 3 for the while, then 2998 are taken.
        Sleepers x = Due.with(loop);
        x.begin(0, 499, 0, 0, 0);
        x.turn(0);
        task(x, 0, 3, 24, 0, -1, 0, 0, 1, 0);
        puts(x, 5);
        Due.due("3000", x.count(9), 3000);
        Sleepers y = Due.with("routine r ( n ) { while i < n { i = i + 1 ; } try { } on e { } try { } on e { } try { } on e { } }");
        y.begin(0, 499, 0, 0, 0);
        y.turn(0);
        task(y, 0, 3, 0);
        Due.due("3000", y.count(9), 3000);
        Sleepers z = Due.with("routine r ( n ) { try { while 1 { } } on e { put e ; } finish { put 5 ; } }");
        begin(z, 0, 0);
        begin(z, 0, 1);
        Due.due("both worn out", z.rounds(9), 2);
        task(z, 1, 3, 24);
        puts(z);
        Due.due("6000", z.count(8), 6000);
        // In the midst of beginning a wait.
        Sleepers w = Due.with("routine r ( n ) { while i < n { i = i + 1 ; } wait both ( child k ( ) , letter 1 , tick 5 , letter 2 ) ; } routine k ( ) { }");
        w.begin(0, 499, 0, 0, 0);
        w.letter(1, 8);
        w.letter(1, 9);
        w.turn(0);
        Due.due("refused at the letter", w.box(1, 0), 8);
        task(w, 0, 3, 24);
        task(w, 1, 3, 22, 0, 0, 1, 0, 0, 1);
        row(w);
        Due.due("ended", w.count(2), 2);
        // A parent's wait fails with it.
        Sleepers v = run("routine r ( ) { try { wait child k ( ) ; } on e { put e ; } } routine k ( ) { while 1 { } }");
        puts(v, 24);
        task(v, 0, 3, 0);
    }

    static void wornOutInAll() {
        Sleepers x = Due.with("routine r ( ) { while 1 { } } routine k ( ) { wait yield ; }");
        for (int i = 0; i < 34; i++) {
            begin(x, 0, i);
        }
        Due.due("turns", x.rounds(400), 34);
        Due.due("in all", x.count(8), 100000);
        Due.due("of the latest", x.count(9), 1000);
        Due.due("how", x.task(33, 1), 24);
        begin(x, 1, 34);
        x.turn(0);
        task(x, 34, 3, 24);
        Due.due("no further", x.count(8), 100000);
        Due.program(x, "routine r ( ) { put 1 ; }");
        begin(x, 0, 0);
        x.turn(0);
        task(x, 0, 3, 24);
        puts(x);
    }

    static void flow() {
        puts(run("routine r ( ) { if 0 { put 1 ; } else { put 2 ; } if 5 { put 3 ; } else { put 4 ; } if - 1 { put 5 ; } if 0 { put 6 ; } }"), 2, 3, 5);
        puts(run("routine r ( ) { while i < 5 { i = i + 1 ; if i = 2 { continue ; } if i = 4 { break ; } put i ; } put 9 ; }"), 1, 3, 9);
        puts(run("routine r ( ) { while i < 2 { i = i + 1 ; j = 0 ; while 1 { j = j + 1 ; if j = 2 { continue ; } if j = 4 { break ; } put 10 * i + j ; } } }"),
                11, 13, 21, 23);
        puts(run("routine r ( ) { while i < 3 { i = i + 1 ; try { if i = 2 { continue ; } try { if i = 3 { break ; } } finish { put 10 + i ; } put i ; } finish { put - i ; } } put 9 ; }"),
                11, 1, -1, -2, 13, -3, 9);
        Sleepers x = run("routine r ( ) { try { while 1 { break ; } put 1 ; } finish { put 2 ; } return 3 ; put 4 ; }");
        puts(x, 1, 2);
        task(x, 0, 3, 0, 3);
        task(run("routine r ( ) { put 1 ; }"), 0, 3, 0, 0);
    }

    static void failures() {
        Sleepers x = run("routine r ( ) { put 1 ; fail 7 ; put 2 ; }");
        puts(x, 1);
        task(x, 0, 3, 7, 0);
        task(run("routine r ( ) { put 1 / 0 ; }"), 0, 3, 11);
        task(run("routine r ( ) { put 1 % ( 1 - 1 ) ; }"), 0, 3, 11);
        puts(run("routine r ( ) { try { put 1 ; fail 4 ; put 2 ; } on e { put e ; } put 3 ; }"), 1, 4, 3);
        puts(run("routine r ( ) { try { try { fail 4 ; } on e { put e ; fail 5 ; put 1 ; } finish { put 2 ; } } on e { put e ; } finish { put 3 ; } }"), 4, 2, 5, 3);
        puts(run("routine r ( ) { try { try { fail 4 ; } finish { put 2 ; } put 1 ; } on e { put e ; } }"), 2, 4);
        puts(run("routine r ( ) { try { try { fail 4 ; } finish { fail 6 ; } } on e { put e ; } }"), 6);
        puts(run("routine r ( ) { try { try { fail 4 ; } finish { try { fail 6 ; } on e { put e ; } } } on e { put e ; } }"), 6, 4);
        puts(run("routine r ( ) { try { x = 5 ; x = 1 / 0 + 1 ; } on e { put x ; put e ; } }"), 5, 11);
        Sleepers y = run("routine r ( ) { try { fail 4 ; } finish { put 2 ; } }");
        puts(y, 2);
        task(y, 0, 3, 4);
        // Of a break a failure in the finish takes the place.
        puts(run("routine r ( ) { while 1 { try { try { break ; } finish { fail 3 ; } } on e { put e ; } put 1 ; break ; } put 2 ; }"), 3, 1, 2);
    }

    static void returnsThroughFinishes() {
        Sleepers x = run("routine r ( ) { a = 1 ; try { try { return a ; } finish { a = 2 ; put 5 ; wait yield ; } } finish { put 6 ; } put 7 ; }");
        puts(x, 5, 6);
        task(x, 0, 3, 0, 1, -1, 0, 1, 2, 0);
        Sleepers y = run("routine r ( ) { try { return 1 / 0 ; } on e { return e ; } finish { put 1 ; } }");
        puts(y, 1);
        task(y, 0, 3, 0, 11);
        task(run("routine r ( ) { try { return 1 ; } finish { fail 2 ; } }"), 0, 3, 2, 0);
    }

    static void letters() {
        Sleepers x = Due.with("routine r ( ) { x = wait letter 3 ; put x ; }");
        begin(x, 0, 0);
        begin(x, 0, 1);
        begin(x, 0, 2);
        x.turn(1);
        x.turn(0);
        Due.row("stands", k -> x.stands(3, k), 1, 0, -1);
        Due.due("stands -1", x.stands(3, -1), -1);
        Due.due("stands of another", x.stands(2, 0), -1);
        Due.due("stands of none", x.stands(8, 0), -1);
        Due.due("stands of -1", x.stands(-1, 0), -1);
        Due.due("letter", x.letter(3, 30), 1);
        Due.row("stands", k -> x.stands(3, k), 0, -1);
        Due.due("letter", x.letter(3, 31), 0);
        Due.due("letter", x.letter(3, 32), -1);
        Due.due("letter", x.letter(3, 33), -1);
        Due.row("box", k -> x.box(3, k), 32, 33, 0);
        Due.due("box -1", x.box(3, -1), 0);
        Due.due("box 8", x.box(8, 0), 0);
        Due.due("box of -1", x.box(-1, 0), 0);
        Due.due("lying", x.count(10), 2);
        row(x, 2, 1, 0);
        x.rounds(9);
        puts(x, 30, 31, 32);
        Due.row("box", k -> x.box(3, k), 33, 0);
        // One that stands twice takes two.
        Sleepers y = run("routine r ( ) { x = wait both ( letter 0 , letter 0 , letter 0 ) ; put x ; }");
        Due.row("stands", k -> y.stands(0, k), 0, 0, 0, -1);
        y.letter(0, 1);
        y.letter(0, 20);
        Due.row("stands", k -> y.stands(0, k), 0, -1);
        y.letter(0, 300);
        y.rounds(1);
        puts(y, 321);
    }

    static void boxesAreFull() {
        Sleepers x = Due.with("routine r ( ) { x = wait letter 0 ; put x ; }");
        for (int i = 0; i < 50; i++) {
            Due.due("letter", x.letter(0, i), -1);
        }
        Due.due("the 51st", x.letter(0, 50), -2);
        Due.due("another box", x.letter(7, 1), -1);
        Due.due("box 8", x.letter(8, 1), -2);
        Due.due("box -1", x.letter(-1, 1), -2);
        Due.due("lying", x.count(10), 51);
        begin(x, 0, 0);
        x.turn(0);
        Due.due("the first is taken", x.box(0, 0), 1);
        Due.due("the last", x.box(0, 48), 49);
        Due.due("room again", x.letter(0, 51), -1);
        Due.due("it is the last", x.box(0, 49), 51);
    }

    static void ticks() {
        Sleepers x = Due.with("routine r ( n ) { wait tick n ; put clock ; }");
        int[] due = {3, 2, 3, 1, 2};
        for (int n : due) {
            x.begin(0, n, 0, 0, 0);
        }
        x.rounds(9);
        Due.due("no tick", x.tick(0), 0);
        row(x);
        Due.due("3 ticks", x.tick(3), 3);
        row(x, 3, 1, 4, 0, 2);
        x.rounds(9);
        puts(x, 3, 3, 3, 3, 3);
        Due.due("-1", x.tick(-1), -1);
        Due.due("10001", x.tick(10001), -1);
        Due.due("10000", x.tick(10000), 10003);
        Due.due("the clock", x.count(7), 10003);
        x.begin(0, 2147483647, 0, 0, 0);
        x.rounds(1);
        x.tick(10000);
        task(x, 5, 1);
        // Of one tick in the order in which they began, whenever that was.
        Sleepers y = Due.with("routine r ( n ) { wait tick n ; }");
        y.begin(0, 5, 0, 0, 0);
        y.rounds(1);
        y.tick(2);
        y.begin(0, 3, 0, 0, 0);
        y.begin(0, 2, 0, 0, 0);
        y.begin(0, 3, 0, 0, 0);
        y.rounds(3);
        y.tick(1);
        row(y);
        y.tick(2);
        row(y, 2, 0, 1, 3);
    }

    static void atOnce() {
        Sleepers x = Due.with("routine r ( ) { wait yield ; wait tick 0 ; wait tick - 3 ; a = wait letter 0 ; put a ; }");
        x.letter(0, 5);
        begin(x, 0, 0);
        for (int i = 1; i <= 4; i++) {
            x.turn(0);
            task(x, 0, 0, 0, 0, -1, 0, i, i, 0);
        }
        Due.due("taken as the wait begins", x.count(10), 0);
        Due.due("not yet in its cell", x.cell(0, 0), 0);
        x.turn(0);
        puts(x, 5);
        // All are begun, and the first in order counts.
        Sleepers y = Due.with("routine r ( ) { x = wait first ( letter 0 , letter 1 , child k ( ) , letter 2 ) ; put x ; } routine k ( ) { }");
        y.letter(1, 11);
        y.letter(2, 12);
        begin(y, 0, 0);
        y.turn(0);
        Due.due("both are taken", y.count(10), 0);
        Due.due("stands for none", y.stands(0, 0), -1);
        task(y, 1, 3, 22, 0, 0, 1, 0, 0, 1);
        row(y, 0);
        y.turn(0);
        puts(y, 11);
    }

    static void children() {
        Sleepers x = Due.with("routine r ( ) { a = wait child k ( 3 , 4 ) ; put a ; b = wait child none ( ) ; put b ; c = wait child bad ( ) ; put 99 ; }"
                + " routine k ( p , q ) { return p * 10 + q ; } routine none ( ) { } routine bad ( ) { fail 8 ; }");
        begin(x, 0, 0);
        begin(x, 2, 1);
        x.turn(0);
        row(x, 1, 2);
        task(x, 2, 0, 0, 0, 0, 1, 0, 0, 0);
        Due.row("its cells", k -> x.cell(2, k), 3, 4);
        task(x, 0, 1);
        x.turn(1);
        row(x, 1, 0);
        task(x, 2, 3, 0, 34);
        x.rounds(9);
        puts(x, 34, 0);
        task(x, 0, 3, 8, 0, -1, 0, 3, 4, 0);
        // From the left, and the task begins behind them.
        Sleepers y = run("routine r ( ) { try { wait child k ( 1 , 2 / 0 ) ; } on e { put e ; } } routine k ( a , b ) { }");
        puts(y, 11);
        Due.due("none began", y.count(1), 1);
        // Cancelled from outside: the wait fails with 22.
        Sleepers z = Due.with("routine r ( ) { try { wait child k ( ) ; } on e { put e ; } } routine k ( ) { wait yield ; }");
        begin(z, 0, 0);
        z.turn(0);
        Due.due("cancel", z.cancel(1), true);
        row(z, 0);
        z.turn(0);
        puts(z, 22);
        begin(z, 0, 2);
        z.rounds(2);
        Due.due("cancel", z.cancel(3), true);
        row(z, 3);
        z.turn(0);
        row(z, 2);
        z.turn(0);
        puts(z, 22, 22);
    }

    static void tooManyTasks() {
        Sleepers x = Due.with("routine r ( ) { try { wait both ( child k ( ) , child k ( ) ) ; } on e { put e ; } } routine k ( ) { put 1 ; }");
        for (int i = 0; i < 199; i++) {
            begin(x, i == 0 ? 0 : 1, i);
        }
        x.turn(0);
        Due.due("tasks", x.count(1), 200);
        task(x, 199, 3, 22, 0, 0, 1, 0, 0, 1);
        Due.due("in the row", x.count(3), 199);
        Due.due("its end", x.row(198), 0);
        x.turn(198);
        puts(x, 23);
    }

    static void both() {
        Sleepers x = run("routine r ( ) { s = wait both ( letter 0 , child k ( 7 ) , tick 2 , yield ) ; put s ; } routine k ( n ) { return n ; }");
        task(x, 0, 1);
        x.letter(0, 2147483647);
        x.tick(2);
        row(x, 0);
        x.turn(0);
        puts(x, Integer.MIN_VALUE + 6);
        // One fails: the others are let go.
        Sleepers y = run("routine r ( ) { try { wait both ( letter 0 , child k ( ) , child bad ( ) ) ; } on e { put e ; } }"
                + " routine k ( ) { try { wait letter 1 ; } finish { put 1 ; } } routine bad ( ) { wait letter 2 ; fail 6 ; }");
        y.letter(2, 0);
        y.turn(0);
        Due.due("stands for none", y.stands(0, 0), -1);
        task(y, 0, 2);
        row(y, 1);
        Due.due("in waits", y.count(4), 1);
        y.rounds(2);
        puts(y, 1, 6);
        // Of several that fail at once the first.
        puts(run("routine r ( ) { try { wait both ( yield , within 0 letter 0 , both ( within 0 letter 1 ) ) ; } on e { put e ; } }"), 21);
    }

    static void first() {
        Sleepers x = run("routine r ( ) { s = wait first ( letter 0 , letter 0 , letter 1 ) ; put s ; }");
        x.letter(0, 5);
        Due.due("stands for none", x.stands(0, 0), -1);
        Due.due("stands for none", x.stands(1, 0), -1);
        Due.due("it lies", x.letter(0, 6), -1);
        x.rounds(1);
        puts(x, 5);
        Sleepers y = run("routine r ( ) { try { wait first ( letter 0 , child k ( ) ) ; } on e { put e ; } } routine k ( ) { fail 3 ; }");
        puts(y, 3);
        // A both within comes with its sum.
        Sleepers z = run("routine r ( ) { s = wait first ( letter 7 , both ( letter 1 , letter 2 ) ) ; put s ; }");
        z.letter(2, 20);
        row(z);
        z.letter(1, 1);
        row(z, 0);
        Due.due("stands for none", z.stands(7, 0), -1);
        z.rounds(1);
        puts(z, 21);
    }

    static void within() {
        puts(run("routine r ( ) { try { x = wait within 0 letter 0 ; } on e { put e ; } x = wait within 0 yield ; put 1 ; x = wait within 0 tick 0 ; put 2 ; }"), 21, 1, 2);
        Sleepers x = run("routine r ( ) { try { x = wait within 2 letter 0 ; put x ; x = wait within 2 letter 0 ; } on e { put e ; } }");
        x.tick(1);
        x.letter(0, 9);
        x.tick(5);
        row(x, 0);
        x.rounds(1);
        x.tick(1);
        row(x);
        x.tick(1);
        row(x, 0);
        Due.due("stands for none", x.stands(0, 0), -1);
        x.rounds(1);
        puts(x, 9, 21);
        // W ahead of the tick of the same time.
        Sleepers y = run("routine r ( ) { wait within 3 tick 3 ; put 1 ; }");
        y.tick(3);
        y.rounds(1);
        puts(y, 1);
        Sleepers z = run("routine r ( ) { try { wait within 3 child k ( ) ; } on e { put e ; } } routine k ( ) { try { wait tick 3 ; } finish { put 5 ; } return 6 ; }");
        z.tick(3);
        // The tick of the child began behind that of its parent.
        task(z, 0, 2);
        task(z, 1, 0, 0, 0, 0, 1, 1, 1, 1);
        Due.due("nothing had come to the child", z.count(6), 0);
        z.rounds(9);
        puts(z, 5, 21);
        // E, then W.
        Sleepers w = run("routine r ( ) { try { wait within 1 / 0 letter 0 ; } on e { put e ; } }");
        puts(w, 11);
    }

    static void failuresInWaits() {
        Sleepers y = Due.with("routine r ( ) { try { wait both ( letter 0 , both ( letter 1 , child k ( ) ) , first ( yield , tick 1 % 0 ) , letter 2 ) ; } on e { put e ; } } routine k ( ) { put 1 ; }");
        y.letter(1, 1);
        y.letter(2, 2);
        begin(y, 0, 0);
        y.turn(0);
        task(y, 0, 0, 0, 0, -1, 0, 1, 1, 0);
        task(y, 1, 3, 22);
        row(y, 0);
        puts(y);
        Due.due("stands for none", y.stands(0, 0), -1);
        Due.due("taken", y.box(1, 0), 0);
        Due.due("not begun", y.box(2, 0), 2);
        y.turn(0);
        puts(y, 11);
        // It is the task's failure, whatever had come at once.
        puts(run("routine r ( ) { try { wait first ( yield , tick 1 / 0 ) ; put 1 ; } on e { put e ; } }"), 11);
        // Cancelled ahead of that turn: no failure comes up, nothing is lost.
        Sleepers z = Due.with("routine r ( ) { try { wait tick 1 / 0 ; } on e { put e ; } finish { put 7 ; } }");
        begin(z, 0, 0);
        z.turn(0);
        Due.due("cancel", z.cancel(0), true);
        Due.due("lost", z.count(6), 0);
        z.turn(0);
        puts(z, 7);
        task(z, 0, 3, 22);
    }

    static final String KIDS = " routine k ( ) { try { wait letter 7 ; } finish { put 1 ; } }";

    static void letGoInOrder() {
        Sleepers x = run("routine r ( ) { x = wait first ( child k ( ) , first ( letter 0 , child k ( ) , child k ( ) ) , child k ( ) ) ; put x ; }" + KIDS);
        Due.due("letter", x.letter(0, 9), 0);
        row(x, 3, 2, 4, 1);
        task(x, 0, 2);
        Due.due("stands for none", x.stands(7, 0), -1);
        x.rounds(3);
        row(x, 1);
        task(x, 0, 2);
        x.turn(0);
        row(x, 0);
        x.turn(0);
        puts(x, 1, 1, 1, 1, 9);
        // An inner one lets go while the one about it goes on.
        Sleepers y = run("routine r ( ) { x = wait both ( first ( letter 0 , child k ( ) ) , letter 1 ) ; put x ; }" + KIDS);
        y.letter(0, 4);
        row(y, 1);
        task(y, 0, 1);
        y.letter(1, 5);
        task(y, 0, 2);
        y.rounds(2);
        puts(y, 1, 9);
        Sleepers z = run("routine r ( ) { wait both ( child k ( ) , first ( child k ( ) , child k ( ) ) , child k ( ) ) ; }" + KIDS);
        Due.due("cancel", z.cancel(0), true);
        row(z, 4, 3, 2, 1);
        task(z, 0, 2, 0, 0, -1, 0, 1, 1, 1);
    }

    static void cancelledChains() {
        Sleepers x = run("routine r ( n ) { try { if n < 3 { wait both ( child r ( n + 1 ) , child r ( 9 ) ) ; } else { wait letter 0 ; } } finish { put n ; } }");
        Due.due("tasks", x.count(1), 7);
        x.cancel(0);
        // 2, 4, 6 and 5 stand for the box; the latest of each is cancelled ahead of the others, with all of its own.
        row(x, 2, 4, 6, 5);
        x.rounds(9);
        puts(x, 9, 9, 9, 3, 2, 1, 0);
        for (int t = 0; t < 7; t++) {
            task(x, t, 3, 22);
        }
        // A chain of 200.
        Sleepers y = run("routine r ( n ) { try { if n < 199 { wait child r ( n + 1 ) ; } else { wait letter 0 ; } } finish { put n ; } }");
        Due.due("tasks", y.count(1), 200);
        Due.due("cancel", y.cancel(0), true);
        row(y, 199);
        Due.due("in waits", y.count(4), 199);
        Due.due("rounds", y.rounds(400), 200);
        Due.due("the first to put", y.put(0, 1), 199);
        Due.due("the last to put", y.put(199, 1), 0);
        Due.due("ended", y.count(2), 200);
    }

    static void cancels() {
        Sleepers x = Due.with("routine r ( ) { try { wait letter 0 ; } on e { put e ; } put 1 ; }");
        begin(x, 0, 0);
        begin(x, 0, 1);
        begin(x, 0, 2);
        Due.due("none such", x.cancel(3), false);
        Due.due("-1", x.cancel(-1), false);
        Due.due("ahead of its first turn", x.cancel(1), true);
        task(x, 1, 3, 22, 0, -1, 0, 0, 0, 1);
        row(x, 0, 2);
        Due.due("ended", x.cancel(1), false);
        x.turn(0);
        Due.due("in a wait", x.cancel(0), true);
        row(x, 2, 0);
        task(x, 0, 0, 0, 0, -1, 0, 1, 1, 1);
        Due.due("again", x.cancel(0), false);
        Due.due("it lies", x.letter(0, 1), -1);
        x.turn(1);
        task(x, 0, 3, 22, 0, -1, 0, 1, 2, 1);
        Due.due("ended", x.cancel(0), false);
        puts(x);
        Due.due("lost", x.count(6), 0);
        // One that is cancelled in the row stays where it is.
        Sleepers y = Due.with("routine r ( ) { wait yield ; put 1 ; }");
        begin(y, 0, 0);
        begin(y, 0, 1);
        y.rounds(2);
        y.cancel(0);
        row(y, 0, 1);
        y.rounds(2);
        puts(y, 1);
        task(y, 0, 3, 22);
        // A child without a turn: its parent's wait fails, and lets go.
        Sleepers z = Due.with("routine r ( ) { wait both ( letter 0 , child k ( ) , child k ( ) ) ; }" + KIDS);
        begin(z, 0, 0);
        z.turn(0);
        z.turn(0);
        Due.due("cancel", z.cancel(2), true);
        row(z, 1);
        task(z, 0, 2);
        Due.due("stands for none", z.stands(0, 0), -1);
        z.rounds(2);
        task(z, 0, 3, 22, 0, -1, 0, 1, 2, 0);
    }

    static void lost() {
        Sleepers x = Due.with("routine r ( ) { x = wait letter 0 ; put x ; } routine y ( ) { wait yield ; } routine f ( ) { wait child g ( ) ; } routine g ( ) { fail 1 ; }"
                + " routine c ( ) { x = wait first ( letter 1 , child r ( ) ) ; }");
        begin(x, 0, 0);
        begin(x, 1, 1);
        begin(x, 2, 2);
        begin(x, 4, 3);
        x.rounds(4);
        row(x, 1, 4, 5);
        x.turn(1);
        x.turn(1);
        row(x, 1, 2);
        x.letter(0, 40);
        x.letter(1, 41);
        row(x, 1, 2, 0, 5);
        task(x, 3, 2);
        x.cancel(0);
        x.cancel(3);
        x.cancel(1);
        x.cancel(2);
        x.cancel(2);
        Due.due("lost", x.count(6), 3);
        Due.row("whose", i -> x.lost(i, 0), 0, 3, 1, -1);
        Due.row("what", i -> x.lost(i, 1), 40, 41, 0, -1);
        Due.due("lost -1", x.lost(-1, 0), -1);
        Due.due("what 2", x.lost(0, 2), -1);
        Due.due("what -1", x.lost(0, -1), -1);
        row(x, 1, 2, 0, 5);
        task(x, 3, 2);
        x.rounds(9);
        task(x, 2, 3, 22);
        task(x, 3, 3, 22);
        Due.due("not in its cell", x.cell(0, 0), 0);
        puts(x);
    }

    static void cancelsAndFinishes() {
        // No on keeps it; the finishes are done from the inner one, and may wait.
        Sleepers x = run("routine r ( ) { try { try { wait letter 0 ; } on e { put 1 ; } finish { put 2 ; x = wait letter 1 ; put x ; } put 3 ; } on e { put 4 ; } finish { put 5 ; } put 6 ; }");
        x.cancel(0);
        x.turn(0);
        task(x, 0, 1, 0, 0, -1, 0, 2, 2, 1);
        Due.due("not twice", x.cancel(0), false);
        x.letter(1, 7);
        x.rounds(9);
        puts(x, 2, 7, 5);
        task(x, 0, 3, 22);
        // A failure ends a finish that a CANCEL goes through, and the CANCEL goes on.
        Sleepers y = run("routine r ( ) { try { try { wait letter 0 ; } finish { put 1 ; fail 5 ; put 2 ; } } on e { put e ; } finish { put 3 ; } }");
        y.cancel(0);
        y.rounds(9);
        puts(y, 1, 3);
        task(y, 0, 3, 22);
        // One that is kept in the finish does not end it.
        Sleepers z = run("routine r ( ) { try { wait letter 0 ; } finish { try { fail 5 ; } on e { put e ; } put 2 ; } }");
        z.cancel(0);
        z.rounds(9);
        puts(z, 5, 2);
        task(z, 0, 3, 22);
        // A CANCEL that comes up in a finish takes the place of a failure, a return, a break.
        Sleepers w = run("routine r ( ) { try { try { fail 1 ; } finish { wait letter 0 ; put 2 ; } } on e { put e ; } finish { put 3 ; } }");
        w.cancel(0);
        w.rounds(9);
        puts(w, 3);
        task(w, 0, 3, 22, 0);
        Sleepers v = run("routine r ( ) { while 1 { try { if a { break ; } return 4 ; } finish { wait letter 0 ; } } put 1 ; }");
        v.cancel(0);
        v.rounds(9);
        task(v, 0, 3, 22, 0);
        puts(v);
        // In an on: to the finish of its own try.
        Sleepers u = run("routine r ( ) { try { fail 1 ; } on e { wait letter 0 ; } finish { put 8 ; } }");
        u.cancel(0);
        u.rounds(9);
        puts(u, 8);
    }

    static void books() {
        Sleepers x = run("routine r ( ) { while i < 310 { put i ; i = i + 1 ; } }");
        Due.due("puts", x.count(5), 310);
        Due.due("the 300th", x.put(299, 1), 299);
        Due.due("whose", x.put(299, 0), 0);
        Due.due("the 301st", x.put(300, 1), -1);
        Due.due("put -1", x.put(-1, 1), -1);
        Due.due("what 2", x.put(0, 2), -1);
        Due.due("what -1", x.put(0, -1), -1);
    }

    static void states() {
        Sleepers x = Due.with("routine r ( ) { wait letter 0 ; wait first ( letter 1 , child k ( ) ) ; return 9 ; } routine k ( ) { wait letter 2 ; }");
        begin(x, 0, 0);
        task(x, 0, 0, 0, 0, -1, 0, 0, 0, 0);
        x.turn(0);
        task(x, 0, 1, 0, 0, -1, 0, 1, 1, 0);
        x.letter(0, 1);
        task(x, 0, 0, 0, 0, -1, 0, 1, 1, 0);
        x.rounds(2);
        task(x, 0, 1, 0, 0, -1, 0, 2, 2, 0);
        task(x, 1, 1, 0, 0, 0, 1, 1, 1, 0);
        Due.row("count", x::count, 2, 2, 0, 0, 2, 0, 0, 0, x.count(8), 2, 0, 0, -1);
        x.letter(1, 1);
        task(x, 0, 2, 0, 0, -1, 0, 2, 2, 0);
        task(x, 1, 0, 0, 0, 0, 1, 1, 1, 1);
        Due.row("count", x::count, 2, 2, 0, 1, 1);
        x.turn(0);
        task(x, 0, 0, 0, 0, -1, 0, 2, 2, 0);
        x.turn(0);
        task(x, 0, 3, 0, 9, -1, 0, 2, 3, 0);
        Due.row("count", x::count, 2, 2, 2, 0, 0);
    }
}
