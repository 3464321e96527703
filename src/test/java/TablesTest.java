/** Promises 6 and 7: what is LIVE behind a STATE, and which STATE may be next. */
public final class TablesTest extends Ways {
    public static void main(String[] args) {
        wrongInputs();
        straight();
        branches();
        waitsReadAndWrite();
        failuresOfSums();
        onWrites();
        finishes();
        cancels();
        failuresInFinish();
        leavings();
        leavingsThroughFinishes();
        deadTexts();
        Due.end();
    }

    static void wrongInputs() {
        Sleepers x = Due.with("routine r ( a ) { wait yield ; }");
        Due.due("live", x.live(0, 1, 0), 0);
        Due.due("no routine", x.live(1, 0, 0), -1);
        Due.due("routine -1", x.live(-1, 0, 0), -1);
        Due.due("no state", x.live(0, 2, 0), -1);
        Due.due("state -1", x.live(0, -1, 0), -1);
        Due.due("no cell", x.live(0, 1, 1), -1);
        Due.due("cell -1", x.live(0, 1, -1), -1);
        Due.due("next", x.next(0, 0, 1), 1);
        Due.due("no routine", x.next(1, 0, 0), -1);
        Due.due("no state", x.next(0, 2, 0), -1);
        Due.due("state -1", x.next(0, -1, 0), -1);
        Due.due("no to", x.next(0, 0, 2), -1);
        Due.due("to -1", x.next(0, 0, -1), -1);
    }

    static void straight() {
        Sleepers x = Due.with("routine r ( a , b ) { c = a ; a = 1 ; wait yield ; put a + c ; wait yield ; put b ; d = b ; put d ; }");
        live(x, 0, 0, "ab");
        live(x, 0, 1, "abc");
        live(x, 0, 2, "b");
        next(x, 0, 0, 1);
        next(x, 0, 1, 0, 2);
        next(x, 0, 2, 0);
        Sleepers empty = Due.with("routine r ( a ) { }");
        live(empty, 0, 0, "");
        next(empty, 0, 0, 0);
    }

    static void branches() {
        Sleepers x = Due.with("routine r ( a ) { if a { wait yield ; } else { b = 1 ; } while c { wait yield ; c = 0 ; put d ; } put b ; }");
        live(x, 0, 0, "abcd");
        live(x, 0, 1, "bcd");
        live(x, 0, 2, "bd");
        next(x, 0, 0, 0, 1, 2);
        next(x, 0, 1, 0, 2);
        next(x, 0, 2, 0, 2);
        // Either way, whatever the E is.
        next(Due.with("routine r ( ) { if 0 { wait yield ; } }"), 0, 0, 0, 1);
        next(Due.with("routine r ( ) { while 1 { wait yield ; } wait yield ; }"), 0, 0, 1, 2);
    }

    static void waitsReadAndWrite() {
        Sleepers x = Due.with("routine r ( a , b ) { a = wait tick a ; b = wait within b both ( child r ( c , d ) , letter 1 ) ; put a + b + c ; }");
        live(x, 0, 0, "abcd");
        live(x, 0, 1, "bcd");
        live(x, 0, 2, "ac");
        next(x, 0, 0, 1);
        // Not written as a failure or a CANCEL.
        Sleepers y = Due.with("routine r ( a ) { try { a = wait yield ; } on e { put a ; } }");
        live(y, 0, 0, "a");
        live(y, 0, 1, "a");
        Sleepers z = Due.with("routine r ( a ) { try { a = wait yield ; } finish { put a ; } }");
        live(z, 0, 1, "a");
        Sleepers w = Due.with("routine r ( a ) { a = wait yield ; put a ; }");
        live(w, 0, 1, "");
    }

    static void failuresOfSums() {
        Sleepers x = Due.with("routine r ( a ) { try { a = b / 2 ; a = 1 ; } on e { put a ; } wait yield ; }");
        live(x, 0, 0, "ab");
        Sleepers y = Due.with("routine r ( a ) { try { a = b * 2 ; a = 1 ; } on e { put a ; } wait yield ; }");
        live(y, 0, 0, "b");
        Sleepers z = Due.with("routine r ( ) { a = 1 % 2 ; wait yield ; }");
        next(z, 0, 0, 0, 1);
        // Both sides are read ahead of it, what is behind is not.
        Sleepers w = Due.with("routine r ( ) { try { put a / b + c ; } on a { } }");
        live(w, 0, 0, "abc");
        Sleepers v = Due.with("routine r ( ) { put 1 ; fail 3 ; wait yield ; put a ; }");
        next(v, 0, 0, 0);
        live(v, 0, 0, "");
        // In the E of a wait, too: ahead of the wait.
        next(Due.with("routine r ( ) { wait tick 1 / 1 ; }"), 0, 0, 0, 1);
    }

    static void onWrites() {
        Sleepers x = Due.with("routine r ( e ) { try { wait yield ; } on e { put e ; } wait yield ; put e ; }");
        live(x, 0, 1, "e");
        Sleepers y = Due.with("routine r ( e ) { try { fail 1 ; } on e { put e ; } }");
        live(y, 0, 0, "");
        next(x, 0, 1, 0, 2);
    }

    static void finishes() {
        Sleepers x = Due.with("routine r ( ) { try { wait yield ; } on e { wait yield ; } finish { wait yield ; } wait yield ; }");
        next(x, 0, 0, 1);
        next(x, 0, 1, 2, 3);
        next(x, 0, 2, 3);
        next(x, 0, 3, 0, 4);
        next(x, 0, 4, 0);
        Sleepers y = Due.with("routine r ( ) { try { try { wait yield ; } finish { put a ; } wait yield ; } on e { put b ; } finish { put c ; } }");
        next(y, 0, 1, 0, 2);
        live(y, 0, 1, "abc");
        live(y, 0, 2, "bc");
        // From a finish's end: behind its try, as a failure, and as a CANCEL.
        next(Due.with("routine r ( ) { try { try { fail 1 ; } finish { } wait yield ; } on e { wait yield ; } }"), 0, 0, 0, 1, 2);
        // A finish that nothing but a CANCEL or a failure goes through leads behind its try all the same.
        Sleepers z = Due.with("routine r ( ) { try { return 1 ; } finish { } wait yield ; }");
        next(z, 0, 0, 0, 1);
    }

    static void cancels() {
        // From a wait in an on to the finish of its try; from one in a finish to that of the try about.
        Sleepers x = Due.with("routine r ( ) { try { try { } on e { wait yield ; } finish { wait yield ; } } finish { wait yield ; } }");
        next(x, 0, 0, 2);
        next(x, 0, 1, 2);
        next(x, 0, 2, 3);
        next(x, 0, 3, 0);
        // An on keeps no CANCEL.
        next(Due.with("routine r ( ) { try { wait yield ; } on e { wait yield ; } wait yield ; }"), 0, 1, 0, 2, 3);
    }

    static void failuresInFinish() {
        Sleepers x = Due.with("routine r ( ) { try { try { } on e { } finish { fail 1 ; } wait yield ; } on e { wait yield ; } }");
        next(x, 0, 0, 2);
        next(x, 0, 1, 0, 2);
        next(x, 0, 2, 0);
        Sleepers y = Due.with("routine r ( ) { try { fail 1 ; } finish { wait yield ; fail 2 ; } wait yield ; }");
        next(y, 0, 0, 1);
        next(y, 0, 1, 0);
    }

    static void leavings() {
        Sleepers x = Due.with("routine r ( a ) { while a { if b { break ; } if c { continue ; } wait yield ; } wait yield ; }");
        next(x, 0, 0, 1, 2);
        live(x, 0, 0, "abc");
        Sleepers y = Due.with("routine r ( a ) { while 1 { break ; wait yield ; } wait yield ; return a ; wait yield ; }");
        next(y, 0, 0, 2);
        next(y, 0, 2, 0);
        live(y, 0, 2, "a");
        Sleepers z = Due.with("routine r ( a ) { while a { a = 0 ; continue ; put b ; } }");
        live(z, 0, 0, "a");
    }

    static void leavingsThroughFinishes() {
        Sleepers x = Due.with("routine r ( ) { while 1 { try { if 1 { break ; } } finish { wait yield ; } wait yield ; } wait yield ; }");
        next(x, 0, 1, 0, 2, 3);
        // Without a break its finish does not lead behind the while.
        Sleepers y = Due.with("routine r ( ) { while 1 { try { if 1 { continue ; } } finish { wait yield ; } wait yield ; return 1 ; } put a ; }");
        next(y, 0, 1, 0, 1, 2);
        Sleepers z = Due.with("routine r ( ) { while 1 { try { while 2 { break ; } } finish { wait yield ; } return a ; } put b ; }");
        live(z, 0, 1, "a");
        // Through the finish of the try about, however deep.
        Sleepers w = Due.with("routine r ( ) { while 1 { try { try { if 1 { break ; } } on e { } } finish { wait yield ; } put c ; return 1 ; } put b ; }");
        live(w, 0, 1, "bc");
        Sleepers v = Due.with("routine r ( ) { while 1 { try { try { break ; } finish { wait yield ; } put a ; } finish { wait yield ; } put c ; return 1 ; } put b ; }");
        next(v, 0, 1, 2);
        live(v, 0, 1, "abc");
        live(v, 0, 2, "bc");
        // A try about the while is not left by its break.
        Sleepers u = Due.with("routine r ( ) { try { while 1 { break ; } put a ; } finish { wait yield ; } put b ; }");
        live(u, 0, 0, "ab");
        next(u, 0, 0, 1);
        // A return goes through the finishes of all.
        Sleepers t = Due.with("routine r ( ) { try { while 1 { try { return a ; } finish { wait yield ; } put b ; return 2 ; } } finish { put c ; wait yield ; } put d ; }");
        live(t, 0, 0, "abcd");
        next(t, 0, 1, 2);
        next(t, 0, 2, 0);
    }

    static void deadTexts() {
        // A break that nothing can come to still counts; so does a state that nothing leads to.
        Sleepers x = Due.with("routine r ( ) { while 1 { try { return 1 ; break ; } finish { wait yield ; } put a ; return 2 ; } put b ; wait yield ; }");
        next(x, 0, 1, 0, 2);
        live(x, 0, 1, "ab");
        Sleepers y = Due.with("routine r ( ) { return 1 ; wait yield ; put a ; }");
        next(y, 0, 0, 0);
        next(y, 0, 1, 0);
        live(y, 0, 1, "a");
        live(y, 0, 0, "");
    }
}
