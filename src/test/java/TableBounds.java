/**
 * The sentences of TABLES and of promises 6 and 7 that name a bound, something empty or without,
 * the end, or what is refused: each has a test of its own.
 */
public final class TableBounds extends Ways {
    public static void main(String[] args) {
        states();
        actAfterAct();
        eitherWay();
        failureOfDivisions();
        failureOfFail();
        failureOfWaits();
        cancelOfWaits();
        heldByFirstAndOn();
        failureToAnOn();
        failureToAFinish();
        failureOnOutward();
        failureFromAFinish();
        failureAtLastToTheEnd();
        cancelToTheNearestFinish();
        cancelElseToTheEnd();
        breakToAFinish();
        continueToAFinish();
        returnToAFinish();
        tryStandsInTheWhile();
        withoutOneBehindThatWhile();
        withoutOneToItsE();
        withoutOneToTheEnd();
        returnBehindItsE();
        finishLeadsBehindItsTry();
        finishLeadsAsAFailure();
        finishLeadsAsACancel();
        finishLeadsAsABreak();
        finishLeadsAsAContinue();
        leavingForAWhileAboutTheTry();
        leavingInAPlaceThatItHolds();
        leavingHoweverDeep();
        notAskedWhetherSomethingComes();
        endOfAFirstBlock();
        endOfAnOn();
        endOfAText();
        waitsReadAhead();
        waitsWriteBehind();
        notWrittenAsAFailure();
        readAheadOfWriting();
        liveOfTheBeginning();
        liveOneOrZero();
        liveNoneSuch();
        nextOneOrZero();
        nextToTheEnd();
        nextNoneSuch();
        Due.end();
    }

    static final String CELLS = "c0,c1,c2,c3,c4,c5,c6,c7,c8,c9,c10,c11";

    /** A routine r ( ) of these STATEMENTS; w stands for wait yield. */
    static Sleepers of(String statements) {
        return Due.with("routine r(){" + statements.replace("w;", "wait yield;") + "}");
    }

    static void nextOf(String statements, int state, int... wanted) {
        next(of(statements), 0, state, wanted);
    }

    static void liveOf(String statements, int state, String cells) {
        live(of(statements), 0, state, cells);
    }

    static void states() {
        Due.of("STATES of a routine: 0 its beginning, 1 + k its k-th wait");
        Sleepers none = of("");
        Due.due("STATES without a wait", none.routine(0, 2), 1);
        next(none, 0, 0, 0);
        Due.due("no STATE 1", none.next(0, 0, 1), -1);
        Sleepers full = of("w;".repeat(16));
        next(full, 0, 0, 1);
        for (int k = 1; k < 16; k++) {
            next(full, 0, k, 0, k + 1);
        }
        next(full, 0, 16, 0);
    }

    static void actAfterAct() {
        Due.of("A WAY leads from act to act, in the order in which STATEMENTS and PARTS are worked out");
        liveOf("a=a+1;", 0, "a");
        liveOf("a=1;put a;", 0, "");
        liveOf("put a;a=1;", 0, "a");
        liveOf("a=b;b=a;", 0, "b");
        nextOf("put 1;w;put 2;w;", 0, 1);
    }

    static void eitherWay() {
        Due.of("behind if and while either way");
        nextOf("if 0{w;}", 0, 0, 1);
        nextOf("if 1{w;}", 0, 0, 1);
        nextOf("if 1{w;}else{w;}", 0, 1, 2);
        nextOf("if 0{}else{w;}", 0, 0, 1);
        nextOf("while 0{w;}", 0, 0, 1);
        nextOf("while 1{w;}", 0, 0, 1);
        nextOf("while 1{}w;", 0, 1);
        liveOf("if 1{a=1;}put a;", 0, "a");
        liveOf("if 1{a=1;}else{a=2;}put a;", 0, "");
        liveOf("while 1{a=1;}put a;", 0, "a");
    }

    static void failureOfDivisions() {
        Due.of("as a failure: from / and %, when both sides are read");
        nextOf("try{put 1/2;}on e{w;}", 0, 0, 1);
        nextOf("try{put 1%2;}on e{w;}", 0, 0, 1);
        nextOf("try{put 1+2-3*4<5;put-1;put 1=2;}on e{w;}", 0, 0);
        nextOf("put 1/2;w;", 0, 0, 1);
        nextOf("wait tick 1/2;", 0, 0, 1);
        nextOf("if 1/2{w;}else{w;}", 0, 0, 1, 2);
        liveOf("try{c=a/b;c=1;}on e{put c;}", 0, "abc");
        liveOf("try{c=a*b;c=1;}on e{put c;}", 0, "ab");
    }

    static void failureOfFail() {
        Due.of("as a failure: from fail");
        nextOf("fail 1;w;", 0, 0);
        nextOf("try{fail 9;w;}on e{w;}", 0, 2);
    }

    static void failureOfWaits() {
        Due.of("as a failure: from a wait, when its E are read");
        nextOf("try{w;}on e{w;}", 1, 0, 2);
        liveOf("try{wait tick a;}on a{put a;}", 0, "a");
        liveOf("try{wait tick a;}on a{put a;}", 1, "");
    }

    static void cancelOfWaits() {
        Due.of("as a CANCEL: from a wait");
        nextOf("try{try{w;}on e{w;}w;}finish{w;}", 1, 2, 3, 4);
        // From nothing else.
        nextOf("try{put 1;w;}finish{w;}", 0, 1);
    }

    static void heldByFirstAndOn() {
        Due.of("A place is HELD by a try if it stands in its first BLOCK or in that of its on");
        nextOf("try{w;}finish{w;}", 1, 2);
        nextOf("try{}on e{w;}finish{w;}", 1, 2);
        nextOf("try{}finish{w;}", 1, 0);
        nextOf("try{if 1{while 1{w;}}}finish{w;}", 1, 1, 2);
        nextOf("try{try{}finish{w;}}finish{w;}", 1, 2);
    }

    static void failureToAnOn() {
        Due.of("from a first BLOCK with an on to that (which writes its CELL)");
        nextOf("try{fail 1;}on e{w;}finish{w;}", 0, 1);
        liveOf("try{w;}on a{put a;}", 1, "");
        liveOf("try{w;}on e{put a;}", 1, "a");
        liveOf("try{fail 1;}on a{put a;}", 0, "");
        // It is that of the first BLOCK alone.
        nextOf("try{}on e{w;}", 1, 0);
        nextOf("try{}on e{}finish{w;}", 1, 0);
    }

    static void failureToAFinish() {
        Due.of("else from a try that HOLDS the place and has a finish to that");
        nextOf("try{fail 1;}finish{w;}", 0, 1);
        nextOf("try{fail 1;}on e{fail 2;}finish{w;}", 0, 1);
        nextOf("try{try{fail 1;}on e{fail 2;}finish{w;}}on e{w;}", 0, 1);
    }

    static void failureOnOutward() {
        Due.of("else on outward");
        nextOf("try{try{fail 1;}on e{fail 2;}}on e{w;}", 0, 1);
        nextOf("try{try{fail 1;}on e{fail 2;}}finish{w;}", 0, 1);
        nextOf("try{try{try{fail 1;}on e{fail 2;}}on e{fail 3;}w;}on e{w;}", 0, 2);
    }

    static void failureFromAFinish() {
        Due.of("from a finish BLOCK outward");
        nextOf("try{try{}on e{w;}finish{fail 1;}}on e{w;}", 0, 2);
        nextOf("try{try{}finish{fail 1;}}finish{w;}", 0, 1);
        nextOf("try{try{}finish{try{fail 1;}on e{fail 2;}w;}}on e{w;}", 0, 2);
    }

    static void failureAtLastToTheEnd() {
        Due.of("at last to the end");
        nextOf("fail 1;w;", 0, 0);
        nextOf("try{fail 1;}on e{fail 2;}w;", 0, 0);
        nextOf("try{}finish{fail 1;}w;", 0, 0);
        nextOf("w;w;", 1, 0, 2);
    }

    static void cancelToTheNearestFinish() {
        Due.of("As a CANCEL: to the finish of the nearest try that HOLDS the place and has one");
        nextOf("try{try{try{w;return 1;}on e{return 1;}}finish{w;}}finish{w;}", 1, 2);
        nextOf("try{try{w;}on e{w;}w;}finish{w;}", 2, 3, 4);
        nextOf("try{try{}finish{w;fail 1;}}on e{}finish{w;}", 1, 2);
        // Behind a value and a failure a is written: the CANCEL alone reads it.
        liveOf("try{try{a=1;w;a=2;}on e{a=3;}}finish{put a;}", 1, "a");
    }

    static void cancelElseToTheEnd() {
        Due.of("As a CANCEL: .. else to the end");
        nextOf("try{w;w;}on e{w;}w;", 1, 0, 2, 3);
        nextOf("try{}finish{try{w;w;}on e{w;}w;}", 1, 0, 2, 3);
    }

    static void breakToAFinish() {
        Due.of("break leads to the finish of the nearest try that HOLDS it and has one");
        nextOf("while 1{try{break;}finish{w;}}w;", 0, 1, 2);
        nextOf("while 1{try{fail 1;}on e{break;}finish{w;}}", 0, 0, 1);
        nextOf("while 1{try{try{try{break;}on e{}}finish{w;}}finish{w;}}", 0, 0, 1);
        nextOf("try{}finish{while 1{try{break;}finish{w;}}w;}", 0, 1, 2);
    }

    static void continueToAFinish() {
        Due.of("continue leads to the finish of the nearest try that HOLDS it and has one");
        nextOf("while 1{try{continue;}finish{w;}}", 0, 0, 1);
        nextOf("while 1{try{fail 1;}on e{continue;}finish{w;}}", 0, 0, 1);
        nextOf("while 1{try{try{try{continue;}on e{}}finish{w;}}finish{w;}}", 0, 0, 1);
    }

    static void returnToAFinish() {
        Due.of("return leads to the finish of the nearest try that HOLDS it and has one");
        nextOf("try{return 1;}finish{w;}w;", 0, 1);
        nextOf("try{fail 1;}on e{return 1;}finish{w;}w;", 0, 1);
        nextOf("try{try{try{return 1;}on e{}}finish{w;}}finish{w;}", 0, 1);
        nextOf("try{while 1{return 1;}return 2;}finish{w;}", 0, 1);
    }

    static void tryStandsInTheWhile() {
        Due.of("and stands in the while that they are for");
        nextOf("try{while 1{break;}w;}finish{w;}", 0, 1);
        nextOf("try{while 1{try{break;}on e{}}w;}finish{w;}", 0, 1);
        nextOf("try{while 1{continue;}w;}finish{w;}", 0, 1);
        nextOf("while 1{try{while 2{break;}w;}finish{w;}}", 0, 0, 1);
    }

    static void withoutOneBehindThatWhile() {
        Due.of("without one behind that while");
        nextOf("while 1{break;w;}w;", 0, 2);
        nextOf("while 1{while 2{break;w;}w;}w;", 0, 2, 3);
        liveOf("w;while a{b=1;break;}put b;", 1, "ab");
        nextOf("while 1{break;}", 0, 0);
    }

    static void withoutOneToItsE() {
        Due.of("without one .. to its E");
        nextOf("while 1{continue;w;}w;", 0, 2);
        liveOf("while a{a=1;w;continue;put b;}", 1, "a");
        liveOf("put c;w;while a{a=1;w;continue;put b;}", 2, "a");
        nextOf("w;while 1{w;continue;}w;", 2, 0, 2, 3);
        nextOf("w;while 1{try{continue;}finish{w;}return 1;}w;", 2, 0, 2, 3);
        liveOf("while b{while a{b=1;a=1;w;continue;}}", 1, "ab");
    }

    static void withoutOneToTheEnd() {
        Due.of("without one .. to the end");
        nextOf("return 1;w;", 0, 0);
        nextOf("while 1{return 1;w;}", 0, 0);
        nextOf("try{return 1;}on e{w;}w;", 0, 0);
        liveOf("return 1;put a;", 0, "");
    }

    static void returnBehindItsE() {
        Due.of("return (behind its E)");
        liveOf("return a+b;", 0, "ab");
        nextOf("try{return 1/2;}on e{w;}", 0, 0, 1);
        liveOf("try{return a;}finish{put b;}", 0, "ab");
    }

    static void finishLeadsBehindItsTry() {
        Due.of("From a finish BLOCK's end WAYS lead to what is behind its try");
        nextOf("try{}finish{w;}w;", 1, 0, 2);
        nextOf("while 1{try{}finish{w;}}", 1, 0, 1);
        nextOf("try{}finish{try{}finish{w;}w;}", 1, 0, 2);
    }

    static void finishLeadsAsAFailure() {
        Due.of("From a finish BLOCK's end .. as a failure .. from the try outward");
        nextOf("try{try{}finish{}}on e{w;}", 0, 0, 1);
        nextOf("try{try{}finish{}w;}on e{w;}finish{w;}", 0, 1, 2, 3);
        nextOf("try{}on e{try{}finish{}w;}finish{w;}", 0, 2);
        nextOf("try{}finish{}w;", 0, 0, 1);
    }

    static void finishLeadsAsACancel() {
        Due.of("From a finish BLOCK's end .. as a CANCEL, from the try outward");
        // Behind the try and as a failure a is written: the CANCEL alone reads it.
        liveOf("try{try{try{}finish{w;}a=1;}on e{a=2;}}finish{put a;}", 1, "a");
        nextOf("try{try{}finish{}w;}on e{w;}", 0, 0, 1, 2);
    }

    static void finishLeadsAsABreak() {
        Due.of("From a finish BLOCK's end .. as a break .. from the try outward, if such a one");
        liveOf("while 1{try{break;}finish{w;}return a;}put b;", 1, "ab");
        liveOf("while 1{try{}finish{w;}return a;}put b;", 1, "a");
        liveOf("while 1{try{continue;}finish{w;}a=1;return 1;}put b;", 1, "b");
        // From the try outward: to the finish of the next in the same while.
        nextOf("while 1{try{try{break;}finish{w;}return 1;}finish{w;}}w;", 1, 2);
        nextOf("while 1{try{try{break;}finish{w;}}finish{w;}return 1;}w;", 2, 0, 3);
    }

    static void finishLeadsAsAContinue() {
        Due.of("From a finish BLOCK's end .. as a continue .. from the try outward, if such a one");
        liveOf("while c{try{continue;}finish{w;}return a;}put b;", 1, "abc");
        liveOf("while c{try{}finish{w;}return a;}put b;", 1, "a");
        liveOf("while c{try{break;}finish{w;}return a;}put b;", 1, "ab");
        nextOf("while 1{try{try{continue;}finish{w;}return 1;}finish{w;}}w;", 1, 2);
        nextOf("while 1{try{try{continue;}finish{w;}}finish{w;}return 1;}w;", 2, 0, 1, 3);
    }

    static void leavingForAWhileAboutTheTry() {
        Due.of("if such a one, for a while about the try, stands in a place that it HOLDS");
        liveOf("while 1{try{while 2{break;}}finish{w;}return a;}put b;", 1, "a");
        liveOf("while c{try{while 2{continue;}}finish{w;}return a;}put b;", 1, "a");
        liveOf("while 1{try{while 2{}break;}finish{w;}return a;}put b;", 1, "ab");
        // The while about the try is that within the other.
        liveOf("while d{while 2{try{break;}finish{w;}return a;}put b;return 1;}put c;", 1, "ab");
    }

    static void leavingInAPlaceThatItHolds() {
        Due.of("stands in a place that it HOLDS");
        liveOf("while 1{try{}on e{break;}finish{w;}return a;}put b;", 1, "ab");
        liveOf("while 1{try{}finish{w;}return a;break;}put b;", 1, "a");
        liveOf("while 1{break;try{}finish{w;}return a;}put b;", 1, "a");
        liveOf("while 1{try{}finish{w;while 2{break;}}return a;}put b;", 1, "a");
    }

    static void leavingHoweverDeep() {
        Due.of("however deep");
        String deep = "try{if 1{}else{" + "if 1{".repeat(6) + "break;" + "}".repeat(6) + "}}finish{w;}";
        liveOf("while 1{" + deep + "return a;}put b;", 1, "ab");
        liveOf("while 1{try{try{}on e{try{break;}on e{}}}finish{w;}return a;}put b;", 1, "ab");
        liveOf("while 1{try{try{break;}finish{}}finish{w;}return a;}put b;", 1, "ab");
    }

    static void notAskedWhetherSomethingComes() {
        Due.of("(Whether something can come there is not asked.)");
        nextOf("try{return 1;}finish{w;}w;", 1, 0, 2);
        nextOf("while 1{try{return 1;break;}finish{w;}return 2;}w;", 1, 0, 2);
        nextOf("return 1;w;w;", 1, 0, 2);
        liveOf("return 1;w;put a;", 1, "a");
        nextOf("try{}on e{w;}w;", 1, 0, 2);
    }

    static void endOfAFirstBlock() {
        Due.of("The end of a first BLOCK .. leads to the finish, without one behind the try");
        nextOf("try{}on e{w;}finish{w;}w;", 0, 2);
        nextOf("try{}on e{w;}w;", 0, 2);
        nextOf("try{}on e{w;}", 0, 0);
    }

    static void endOfAnOn() {
        Due.of("The end .. of that of on leads to the finish, without one behind the try");
        nextOf("try{fail 1;}on e{}finish{w;}w;", 0, 1);
        nextOf("try{fail 1;}on e{}w;", 0, 1);
        nextOf("try{fail 1;}on e{}", 0, 0);
    }

    static void endOfAText() {
        Due.of("a text's end to the end");
        nextOf("", 0, 0);
        nextOf("put 1;", 0, 0);
        nextOf("w;", 0, 1);
        nextOf("w;", 1, 0);
        // It is not the beginning of the next routine.
        Sleepers x = Due.with("routine r(){}routine s(){wait yield;put a;}");
        next(x, 0, 0, 0);
        next(x, 1, 0, 1);
    }

    static void waitsReadAhead() {
        Due.of("A wait reads the CELLS of its E ahead of itself");
        Sleepers x = Due.with("routine r(a,b){a=wait tick a;wait within c both(child r(b,d),first(tick e,letter 0));}");
        live(x, 0, 0, "abcde");
        live(x, 0, 1, "bcde");
        live(x, 0, 2, "");
    }

    static void waitsWriteBehind() {
        Due.of("behind it, as it comes with a value, it writes its CELL");
        liveOf("a=wait yield;put a;", 1, "");
        liveOf("a=wait yield;put a;", 0, "");
        liveOf("wait yield;put a;", 1, "a");
        liveOf("a=wait yield;put b;", 1, "b");
    }

    static void notWrittenAsAFailure() {
        Due.of("not so as a failure or a CANCEL");
        liveOf("try{a=wait yield;}on e{put a;}", 1, "a");
        liveOf("try{try{a=wait yield;}on e{a=1;}}finish{put a;}", 1, "a");
        liveOf("try{a=wait yield;}on a{put a;}", 1, "");
    }

    static void readAheadOfWriting() {
        Due.of("A CELL is LIVE behind a wait (from the beginning) if some WAY from there reads it ahead of writing it");
        liveOf("w;a=1;put a;", 1, "");
        liveOf("w;put a;a=1;", 1, "a");
        liveOf("w;if 1{a=1;}put a;", 1, "a");
        liveOf("w;w;w;put a;", 1, "a");
        liveOf("w;w;a=1;w;put a;", 1, "");
        liveOf("w;w;a=1;w;put a;", 3, "a");
        liveOf("while 1{w;put a;a=1;}", 1, "a");
        liveOf("while 1{a=1;w;put a;}", 0, "");
        liveOf("w;", 1, "");
        // Whatever was asked ahead.
        Sleepers x = of("if 1{put a;}else{put b;}w;put c;w;");
        for (int i = 0; i < 4; i++) {
            live(x, 0, i % 2 == 0 ? 0 : 2, i % 2 == 0 ? "abc" : "");
            live(x, 0, 1, "c");
        }
    }

    static void liveOfTheBeginning() {
        Due.of("Promise 6: of 0: NAMES in ( ) and others alike, from the text's beginning");
        Sleepers x = Due.with("routine r(a,b){b=1;put a+b+c;d=c;put d;}");
        live(x, 0, 0, "ac");
    }

    static void liveOneOrZero() {
        Due.of("Promise 6: 1 or 0 (all CELLS, all STATES of a full routine)");
        Sleepers x = Due.with("routine r(" + CELLS + "){" + "wait yield;".repeat(15) + "c11=wait yield;put c0+c11;}");
        for (int state = 0; state <= 16; state++) {
            Due.due("live " + state + " 0", x.live(0, state, 0), 1);
            Due.due("live " + state + " 1", x.live(0, state, 1), 0);
            Due.due("live " + state + " 11", x.live(0, state, 11), 0);
        }
    }

    static void liveNoneSuch() {
        Due.of("Promise 6: NONE: none such");
        Sleepers x = Due.with("routine r(" + CELLS + "){" + "wait yield;".repeat(16) + "}routine s(a){}");
        int[] out = {Integer.MIN_VALUE, -2, -1, 17, 18, Integer.MAX_VALUE};
        for (int n : out) {
            Due.due("routine " + n, x.live(n, 0, 0), -1);
            Due.due("state " + n, x.live(0, n, 0), -1);
            Due.due("cell " + n, x.live(0, 0, n), -1);
        }
        Due.due("the last routine", x.live(1, 0, 0), 0);
        Due.due("one behind it", x.live(2, 0, 0), -1);
        Due.due("the last STATE", x.live(0, 16, 0), 0);
        Due.due("of the other", x.live(1, 1, 0), -1);
        Due.due("the last CELL", x.live(0, 0, 11), 0);
        Due.due("one behind it", x.live(0, 0, 12), -1);
        Due.due("of the other", x.live(1, 0, 1), -1);
        Due.due("without CELLS", of("").live(0, 0, 0), -1);
        Due.due("without a program", new Sleepers().live(0, 0, 0), -1);
    }

    static void nextOneOrZero() {
        Due.of("Promise 7: Whether from a STATE the next wait on some WAY may be STATE to (1 ..): 1 or 0");
        nextOf("if 1{w;w;}else{w;}w;", 0, 1, 3);
        nextOf("if 1{w;w;}else{w;}w;", 1, 0, 2);
        nextOf("while 1{w;}", 1, 0, 1);
        // The next one, not one behind it.
        nextOf("w;w;w;", 0, 1);
        // Whatever was asked ahead.
        Sleepers x = of("if 1{w;}else{w;}w;while 1{w;put 1/2;}");
        int[][] table = {{0, 1, 1, 0, 0}, {1, 0, 0, 1, 0}, {1, 0, 0, 1, 0}, {1, 0, 0, 0, 1}, {1, 0, 0, 0, 1}};
        for (int stride = 1; stride < 25; stride += 5) {
            for (int i = 0, at = 0; i < 25; i++, at = (at + stride + 1) % 25) {
                Due.due("next " + at / 5 + " " + at % 5, x.next(0, at / 5, at % 5), table[at / 5][at % 5]);
            }
        }
        for (int i = 0; i < 25; i++) {
            x.next(0, 0, 1);
            Due.due("next " + i / 5 + " " + i % 5, x.next(0, i / 5, i % 5), table[i / 5][i % 5]);
        }
    }

    static void nextToTheEnd() {
        Due.of("Promise 7: or the end (to 0)");
        nextOf("", 0, 0);
        nextOf("w;", 0, 1);
        nextOf("w;", 1, 0);
        nextOf("if 1{w;}", 0, 0, 1);
        nextOf("try{w;return 1;}finish{w;}", 1, 2);
    }

    static void nextNoneSuch() {
        Due.of("Promise 7: NONE: none such");
        Sleepers x = Due.with("routine r(){" + "wait yield;".repeat(16) + "}routine s(){}");
        int[] out = {Integer.MIN_VALUE, -2, -1, 17, 18, Integer.MAX_VALUE};
        for (int n : out) {
            Due.due("routine " + n, x.next(n, 0, 0), -1);
            Due.due("state " + n, x.next(0, n, 0), -1);
            Due.due("to " + n, x.next(0, 0, n), -1);
        }
        Due.due("the last STATE", x.next(0, 16, 0), 1);
        Due.due("to the last STATE", x.next(0, 15, 16), 1);
        Due.due("the last routine", x.next(1, 0, 0), 1);
        Due.due("one behind it", x.next(2, 0, 0), -1);
        Due.due("its STATE 1", x.next(1, 1, 0), -1);
        Due.due("to its STATE 1", x.next(1, 0, 1), -1);
        Due.due("without a program", new Sleepers().next(0, 0, 0), -1);
    }
}
