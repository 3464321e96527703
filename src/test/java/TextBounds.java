/**
 * The sentences of TEXTS and of promises 1 to 5 that name a bound, something empty or full, or
 * what is refused: each has a test of its own, at the bound, one below and one above it.
 */
public final class TextBounds {
    static final String[] RESERVED = ("routine wait put if else while break continue return fail try on finish"
            + " letter tick yield child both first within clock").split(" ");

    public static void main(String[] args) {
        usedFor512Calls();
        tapeHolds4000();
        tapeTakesSigns();
        readingTakesTheTape();
        readingTakesTheTapeOfNames();
        tokensAsLongAsCanBe();
        blanksWhereOneLikes();
        wordsOfTwelve();
        wordsOfLettersAndDigits();
        wordsAreToldApart();
        numbersOfNine();
        lettersBehindNumbers();
        allElseIsNone();
        anyNumberOfRoutines();
        namesInBrackets();
        emptyBlocks();
        oneOfTheTwoOrBoth();
        elseOrNone();
        oneComparison();
        anyMoreOfASum();
        anyMoreStatements();
        anyMoreTriesAndWhiles();
        anyMoreChildren();
        listsOfWaits();
        listsOfNumbers();
        reservedWords();
        cellsInOrder();
        cellsAreZero();
        breaksInAWhile();
        continueGoesToItsE();
        notInAFinish();
        returnInNoFinish();
        childrenToldAnywhere();
        letterNumbers();
        failNumbers();
        twelveRoutines();
        twelveCells();
        sixteenWaits();
        fourWaits();
        tenBlocks();
        tenWaits();
        tenParts();
        eachKindCountsItself();
        placesOfFaults();
        placeOfTheEnd();
        firstFromTheLeft();
        theLeastKind();
        cannotStand();
        notTold();
        toldAlready();
        numberNotAsTold();
        oneTooManyAtItsToken();
        notAsManyE();
        firstOfBoth();
        noTaskIsThere();
        noTraceOfOldTasks();
        noTraceOfOldWaits();
        againAndAgain();
        noLetterIsThere();
        clockIsZero();
        booksAreEmpty();
        stepsStayCounted();
        elseAllStays();
        newObject();
        feedUpTo24();
        feedHighestFirst();
        feedLeavesOut();
        feedTellsHowMany();
        programTellsZero();
        namedIsOneWord();
        namedRoutines();
        namedCells();
        namedNoSuchRoutine();
        routineTells();
        routineNoneSuch();
        Due.end();
    }

    static final String CELLS = "c0,c1,c2,c3,c4,c5,c6,c7,c8,c9,c10";

    static String blanks(int n) {
        return " ".repeat(n);
    }

    static void body(String statements) {
        Due.good("routine a ( ) { " + statements + " }");
    }

    /** A FAULT in a routine's BLOCK, its place behind the sign ^. */
    static void badBody(int kind, String statements) {
        Due.fault(kind, "routine a ( ) { " + statements + " }");
    }

    static String routines(int n) {
        StringBuilder text = new StringBuilder();
        for (int i = 0; i < n; i++) {
            text.append("routine r").append(i).append("(){}");
        }
        return text.toString();
    }

    /** Something that stands n times within itself, about what is innermost. */
    static String nested(int n, String open, String inner, String close) {
        return open.repeat(n) + inner + close.repeat(n);
    }

    static void usedFor512Calls() {
        Due.of("An object is used for at most 512 calls after it has been made");
        Sleepers x = new Sleepers();
        x.feed(0x726F7574696E6520L, 0x61286E297B707574L, 0x206E3B7D00000000L);
        Due.due("program", x.program(), 0);
        int calls = 2;
        for (int i = 0; calls + 3 <= 510; i++) {
            Due.due("begin", x.begin(0, i, 0, 0, 0), i < 200 ? i : -1);
            Due.due("live", x.live(0, 0, 0), 1);
            Due.due("rounds", x.rounds(1), i < 200 ? 1 : 0);
            calls += 3;
        }
        for (; calls < 511; calls++) {
            Due.due("count", x.count(2), 169);
        }
        Due.due("the 512th", x.put(168, 1), 168);
    }

    static void tapeHolds4000() {
        Due.of("The TAPE has at most 4,000 signs");
        Sleepers x = Due.with("routine a(){}");
        Due.due("two below", Due.feed(x, blanks(3998)), 3998);
        Due.due("one below", Due.feed(x, " "), 3999);
        Due.due("at it", Due.feed(x, "a"), 4000);
        Due.due("one above", Due.feed(x, "b"), 4000);
        Due.due("on the tape", x.count(11), 4000);
        Due.due("the 4,000th is there, the 4,001st is not", x.named(-1), 0);
        Due.due("in the midst of a feed", Due.feed(x, blanks(3984) + blanks(15) + "abcdefghi"), 4000);
        Due.due("the first that has room", x.named(-1), 0);
        Due.due("room again", Due.feed(x, "a"), 1);
        Due.due("a text of 4,000", Due.program(new Sleepers(), "routine a(){" + blanks(3987) + "}"), 0);
        Due.due("a text of 4,001", Due.program(new Sleepers(), "routine a(){" + blanks(3988) + "}"), 1 + 16 * 4000);
    }

    static void tapeTakesSigns() {
        Due.of("signs, 10 and 32 .. 126");
        Sleepers x = new Sleepers();
        int signs = 0;
        for (int b = 0; b < 256; b++) {
            signs += b == 10 || b >= 32 && b <= 126 ? 1 : 0;
            Due.due("feed of the byte " + b, x.feed((long) b << 56, 0, 0), signs);
        }
        Due.due("96 of them", signs, 96);
    }

    static void readingTakesTheTape() {
        Due.of("what reads it takes it: it is empty then (program)");
        Sleepers x = new Sleepers();
        Due.due("a good text", Due.program(x, "routine a(){}"), 0);
        Due.due("taken", x.count(11), 0);
        Due.due("a fault at its first token", Due.program(x, "; routine b(){}"), 1);
        Due.due("taken to its end", x.count(11), 0);
        Due.due("next feed begins anew", Due.feed(x, "ab"), 2);
        x.program();
        Due.due("an empty one is read", x.program(), 0);
        Due.due("and has no routine", x.count(0), 0);
        Due.due("empty still", x.count(11), 0);
        // Nothing of it stands behind a shorter one.
        Due.due("a longer number", Due.program(x, "routine a(){put 1234567890"), 1 + 16 * 16);
        Due.due("a number of nine", Due.program(x, "routine a(){put 123456789"), 1 + 16 * 25);
        Due.due("a longer name", Due.program(x, "routine abcdefghijkl(){}routine abc(){}"), 0);
        Due.due("a shorter one", Due.named(x, "abc", -1), 1);
    }

    static void readingTakesTheTapeOfNames() {
        Due.of("what reads it takes it: it is empty then (named)");
        Sleepers x = Due.with("routine a(b){}");
        String[] tapes = {"a", "b", "c", "a b", ";", "1", ""};
        int[] routines = {-1, 0, 1, -2, Integer.MAX_VALUE};
        for (String tape : tapes) {
            for (int routine : routines) {
                Due.named(x, tape, routine);
                Due.due("left of " + tape, x.count(11), 0);
            }
        }
        Due.due("the program stays", x.count(0), 1);
    }

    static void tokensAsLongAsCanBe() {
        Due.of("TOKENS, each as long as can be");
        Due.fault(1, "^routinea(){}");
        Due.good("routine a(){puts=1;iff=2;x1=3;}");
        badBody(1, "put1^;");
        badBody(1, "put a ^b;");
        Due.due("one number", Runs.run("routine a(){put 12;}").put(0, 1), 12);
        Due.good("routine a(){if1=1;if 1{}else1=1;}");
    }

    static void blanksWhereOneLikes() {
        Due.of("blanks (10, 32) between where one likes");
        Due.good("routine a(b,c){d=b<c;wait both(letter 0,yield);if-1{}else{}try{}on e{}}");
        Due.good("\n\n  routine\n\na\n(\n b\n\n,\n c )\n{ d =\nb\n<\nc ; wait\nboth ( letter\n0 , yield\n) ; }  \n ");
        Due.good("routine\na(){}");
        // 9 and 13 are no signs of the TAPE: nothing is between.
        Due.due("9", Due.program(new Sleepers(), "routine\ta(){}"), 1);
        Due.due("13", Due.program(new Sleepers(), "routine\ra(){}"), 1);
    }

    static void wordsOfTwelve() {
        Due.of("WORDS (a letter a .. z, then letters and digits, 12 at most)");
        String word = "abcdefghijklmno";
        for (int n = 1; n <= 12; n++) {
            Due.good("routine " + word.substring(0, n) + "(){}");
        }
        for (int n = 13; n <= 15; n++) {
            Due.fault(1, "routine ^" + word.substring(0, n) + "(){}");
        }
        badBody(1, "put ^a123456789012;");
        body("put a12345678901;");
        // Twelve are told apart to the last.
        Sleepers x = Due.with("routine zzzzzzzzzzzz(){}routine zzzzzzzzzzz9(){}routine zzzzzzzzzzz(){}");
        Due.due("the first", Due.named(x, "zzzzzzzzzzzz", -1), 0);
        Due.due("the second", Due.named(x, "zzzzzzzzzzz9", -1), 1);
        Due.due("the third", Due.named(x, "zzzzzzzzzzz", -1), 2);
        Due.due("thirteen", Due.named(x, "zzzzzzzzzzzzz", -1), -1);
    }

    static void wordsOfLettersAndDigits() {
        Due.of("a letter a .. z, then letters and digits");
        Due.good("routine a(){}routine z(){}routine a0(){}routine z9(){}routine m5n(){}");
        Due.fault(1, "routine ^`(){}");
        Due.fault(1, "routine ^{(){}");
        Due.fault(1, "routine ^0a(){}");
        Due.fault(1, "routine ^A(){}");
        Due.fault(1, "routine ^Z(){}");
        Due.fault(1, "routine a^B(){}");
        Due.fault(1, "routine a^_b(){}");
        Due.fault(1, "routine a^/(){}");
        Due.fault(1, "routine a^:(){}");
    }

    static void wordsAreToldApart() {
        Due.of("WORDS (a letter a .. z, then letters and digits: no two of them are one)");
        String signs = "abcdefghijklmnopqrstuvwxyz0123456789";
        for (int i = 0; i < 36; i++) {
            Sleepers x = Due.with("routine a" + signs.charAt(i) + "(){}");
            for (int k = 0; k < 36; k++) {
                Due.due("a" + signs.charAt(k), Due.named(x, "a" + signs.charAt(k), -1), k == i ? 0 : -1);
            }
            Due.due("a", Due.named(x, "a", -1), -1);
        }
    }

    static void numbersOfNine() {
        Due.of("NUMBERS (1 to 9 digits");
        Sleepers x = Runs.run("routine a(){put 0;put 9;put 99999999;put 999999999;put 000000007;}");
        Runs.puts(x, 0, 9, 99999999, 999999999, 7);
        badBody(1, "put ^1000000000;");
        badBody(1, "put ^0000000001;");
        badBody(1, "wait letter ^0000000000;");
        badBody(1, "fail ^0000000001;");
        badBody(1, "put ^12345678901234567890123;");
    }

    static void lettersBehindNumbers() {
        Due.of("a letter may stand right behind");
        body("wait within 1yield;");
        body("wait within 123456789letter 0;");
        badBody(1, "put 1^a;");
        badBody(1, "wait within ^1234567890yield;");
    }

    static void allElseIsNone() {
        Due.of("signs { } ( ) , ; = < + - * / %; all else is none");
        for (char c = 33; c < 127; c++) {
            boolean known = c >= 'a' && c <= 'z' || c >= '0' && c <= '9' || "{}(),;=<+-*/%".indexOf(c) >= 0;
            if (!known) {
                badBody(1, "^" + c);
                badBody(1, "put 1 ^" + c + " 2;");
            }
        }
        body("x=(1+2-3*4/5%6)<7;wait both(yield,yield);");
    }

    static void anyNumberOfRoutines() {
        Due.of("PROGRAM: any number of routine NAME ( ) BLOCK");
        Sleepers x = Due.with("routine a(){}");
        Due.due("none", Due.program(x, ""), 0);
        Due.due("routines", x.count(0), 0);
        Due.due("blanks alone", Due.program(x, " \n "), 0);
        Due.due("one", Due.program(x, routines(1)), 0);
        Due.due("routines", x.count(0), 1);
        Due.due("two", Due.program(x, routines(2)), 0);
        Due.due("routines", x.count(0), 2);
        Due.fault(1, "routine a(){}^a(){}");
    }

    static void namesInBrackets() {
        Due.of("( [ NAME { , NAME } ] )");
        Due.good("routine a(){}");
        Due.good("routine a(b){}");
        Due.good("routine a(b,c){}");
        Due.fault(1, "routine a(^,){}");
        Due.fault(1, "routine a(b,^){}");
        Due.fault(1, "routine a(b ^c){}");
        Due.fault(1, "routine a(^1){}");
        Due.fault(1, "routine a^{}");
    }

    static void emptyBlocks() {
        Due.of("BLOCK: { STATEMENT .. } in signs, none, too");
        body("");
        body("if 1{}else{}while 0{}try{}on e{}finish{}");
        badBody(1, "^;");
        badBody(1, "^{}");
        Due.due("an empty text does nothing", Runs.run("routine a(){if 1{}else{}try{}on e{}finish{}}").task(0, 1), 0);
    }

    static void oneOfTheTwoOrBoth() {
        Due.of("try BLOCK [ on CELL BLOCK ] [ finish BLOCK ] (one of the two, or both)");
        body("try{}on e{}");
        body("try{}finish{}");
        body("try{}on e{}finish{}");
        badBody(1, "try{}^put 1;");
        Due.fault(1, "routine a(){try{}^}");
        badBody(1, "try{}on e{}^on e{}");
        badBody(1, "try{}finish{}^finish{}");
        badBody(1, "try{}finish{}^on e{}");
    }

    static void elseOrNone() {
        Due.of("if E BLOCK [ else BLOCK ]");
        body("if 1{}");
        body("if 1{}else{}");
        badBody(1, "if 1{}else{}^else{}");
        badBody(1, "^else{}");
        badBody(1, "if ^{}");
    }

    static void oneComparison() {
        Due.of("E: SUM [ < SUM or = SUM ]");
        body("put 1;put 1<2;put 1=2;");
        badBody(1, "put 1<2^<3;");
        badBody(1, "put 1<2^=3;");
        badBody(1, "put 1=2^<3;");
        badBody(1, "put ^;");
        badBody(1, "put ^<1;");
        badBody(1, "put 1<^;");
    }

    static void anyMoreOfASum() {
        Due.of("SUM: PRODUCT { + or - PRODUCT }. PRODUCT: PART { * or / or % PART } (as many as the TAPE holds)");
        Runs.puts(Runs.run("routine a(){put 7;put 7*1;put 7+0;}"), 7, 7, 7);
        String sum = "routine a(){put 1" + "+1".repeat(1990) + ";}";
        Due.due("signs", sum.length(), 3999);
        Runs.puts(Runs.run(sum), 1991);
        Runs.puts(Runs.run("routine a(){put 7" + "*1".repeat(1990) + ";}"), 7);
        Runs.puts(Runs.run("routine a(){put 7" + "-1%2+3/3".repeat(400) + ";}"), 7);
        // Of - PART each sign is an act, and one more behind it.
        Runs.puts(Runs.run("routine a(){put 0" + "+---------1".repeat(270) + ";}"), -270);
        badBody(1, "put 1" + "+1".repeat(1900) + "+^;");
    }

    static void anyMoreStatements() {
        Due.of("BLOCK: { STATEMENT .. } (as many as the TAPE holds)");
        Sleepers x = Runs.run("routine a(){" + "b=b+1;".repeat(660) + "put b;}");
        Runs.puts(x, 660);
        x = Runs.run("routine a(){" + "put b;".repeat(662) + "}");
        Due.due("puts", x.count(5), 662);
        badBody(1, "a=1;".repeat(980) + "^1;");
    }

    static void anyMoreTriesAndWhiles() {
        Due.of("STATEMENT: while E BLOCK, try BLOCK [ on CELL BLOCK ] (as many as the TAPE holds)");
        Sleepers x = Runs.run("routine a(){" + "try{}on e{}".repeat(360) + "put 1;}");
        Runs.puts(x, 1);
        x = Runs.run("routine a(){" + "while e{}".repeat(441) + "put 1;}");
        Runs.puts(x, 1);
        x = Runs.run("routine a(){" + "while 1{break;}".repeat(260) + "try{put 1/0;}on e{put e;}}");
        Runs.puts(x, 11);
        // One PROGRAM behind the other: what each had is no more counted.
        String[] bodies = {"try{}on e{}".repeat(190), "while 0{}".repeat(230), "put 0" + "+---------1".repeat(195) + ";"};
        for (String statements : bodies) {
            Sleepers again = new Sleepers();
            for (int i = 0; i < 5; i++) {
                Due.due("program " + i, Due.program(again, "routine a(){" + statements + "return 7;}"), 0);
            }
            again.begin(0, 0, 0, 0, 0);
            again.turn(0);
            Due.due("how it ended", again.task(0, 1), 0);
            Due.due("what it returned", again.task(0, 2), 7);
        }
        // The latest of them leads to where the first would.
        x = Due.with("routine a(){" + "try{}on e{}".repeat(350) + "try{wait yield;}on e{wait yield;}}");
        Due.due("to its on", x.next(0, 1, 2), 1);
    }

    static void anyMoreChildren() {
        Due.of("WAIT: child ROUTINE ( ) (as many as the TAPE holds: the last, too, is looked for)");
        String four = "both(child a(),child a(),child a(),child a())";
        String sixteen = "both(" + four + "," + four + "," + four + "," + four + ")";
        String most = ("wait " + sixteen + ";").repeat(4) + ("wait " + four + ";").repeat(12);
        body(most);
        badBody(2, most.substring(0, most.length() - "child a());".length()) + "child ^b());");
        badBody(6, most.substring(0, most.length() - "child a());".length()) + "child ^a(1));");
        String sixtyFour = "wait both(" + sixteen + "," + sixteen + "," + sixteen + "," + sixteen + ");";
        body(sixtyFour.repeat(4));
        badBody(2, sixtyFour.repeat(4) + "wait child ^b();");
    }

    static void listsOfWaits() {
        Due.of("both ( WAIT { , WAIT } ) | first ( WAIT { , WAIT } )");
        for (String kind : new String[] {"both", "first"}) {
            badBody(1, "wait " + kind + "(^);");
            body("wait " + kind + "(yield);");
            body("wait " + kind + "(yield,yield);");
            badBody(1, "wait " + kind + "(yield,^);");
            badBody(1, "wait " + kind + "(yield ^yield);");
        }
    }

    static void listsOfNumbers() {
        Due.of("child ROUTINE ( [ E { , E } ] )");
        Due.good("routine a(){wait child a();}");
        Due.good("routine a(b){wait child a(1);}");
        Due.good("routine a(b,c){wait child a(1,2);}");
        Due.good("routine a(" + CELLS + ",d){wait child a(1,2,3,4,5,6,7,8,9,10,11,12);}");
        badBody(1, "wait child a(^,);");
        badBody(1, "wait child a(1,^);");
        badBody(1, "wait child a^;");
    }

    static void reservedWords() {
        Due.of("NAMES, CELLS are WORDS but routine wait put .. clock");
        Due.due("of them there are", RESERVED.length, 21);
        for (String word : RESERVED) {
            Due.fault(1, "routine ^" + word + "(){}");
            Due.fault(1, "routine a(^" + word + "){}");
            Due.fault(1, "routine a(b,^" + word + "){}");
            badBody(1, "try{}on ^" + word + "{}");
            badBody(1, "wait child ^" + word + "();");
            if (!word.equals("clock")) {
                badBody(1, "put ^" + word + ";");
            }
            // A WORD that is one sign longer or shorter is a NAME.
            Due.good("routine " + word + "s(" + word + "0){put " + word.substring(0, word.length() - 1) + ";}");
        }
        badBody(1, "^clock=1;");
        badBody(1, "^letter=1;");
    }

    static void cellsInOrder() {
        Due.of("A routine's CELLS are its NAMES in ( ), then others as they first come in its text");
        Sleepers x = Due.with("routine a(m,l){wait child a(k,j);i=h;try{}on g{put l+f;}m=e;}routine k(i){l=i;}");
        String[] cells = {"m", "l", "k", "j", "i", "h", "g", "f", "e"};
        for (int k = 0; k < cells.length; k++) {
            Due.due(cells[k], Due.named(x, cells[k], 0), k);
        }
        Due.due("a is none", Due.named(x, "a", 0), -1);
        Due.due("CELLS", x.routine(0, 1), 9);
        Due.due("of the second", Due.named(x, "l", 1), 1);
        Due.due("none", Due.with("routine a(){}").routine(0, 1), 0);
    }

    static void cellsAreZero() {
        Due.of("they are 0 at first");
        Sleepers x = Due.with("routine a(b){c=5;d=6;wait yield;}");
        x.begin(0, 7, 0, 0, 0);
        x.turn(0);
        Due.due("another task", x.begin(0, 0, 0, 0, 0), 1);
        Due.row("its cells", k -> x.cell(1, k), 0, 0, 0);
        Due.due("program", Due.program(x, "routine a(b){c=5;d=6;}"), 0);
        Due.due("the first of a new program", x.begin(0, 1, 0, 0, 0), 0);
        Due.row("its cells", k -> x.cell(0, k), 1, 0, 0);
    }

    static void breaksInAWhile() {
        Due.of("break, continue stand in a while of their routine");
        for (String word : new String[] {"break;", "continue;"}) {
            body("while 1{" + word + "}");
            body("while 1{if 1{try{" + word + "}on e{" + word + "}}}");
            badBody(1, "^" + word);
            badBody(1, "if 1{^" + word + "}");
            badBody(1, "while 1{}^" + word);
            Due.fault(1, "routine a(){while 1{}}routine b(){^" + word + "}");
        }
    }

    static void continueGoesToItsE() {
        Due.of("(continue goes to its E)");
        Sleepers x = Runs.run("routine a(){while i<2{i=i+1;continue;put 9;}put i;}");
        Runs.puts(x, 2);
        Due.due("STEPS", x.count(9), 3 * 3 + 2 * 4 + 2);
        Runs.puts(Runs.run("routine a(){put 7;while i<2{i=i+1;while j<3{j=j+1;continue;}continue;}put i;put j;}"), 7, 2, 3);
    }

    static void notInAFinish() {
        Due.of("not in a finish for a while about its try");
        for (String word : new String[] {"break;", "continue;"}) {
            badBody(1, "while 1{try{}finish{^" + word + "}}");
            badBody(1, "while 1{try{}finish{if 1{try{^" + word + "}on e{}}}}");
            badBody(1, "while 1{try{}finish{while 2{}^" + word + "}}");
            body("try{}finish{while 1{" + word + "}}");
            body("while 1{try{}finish{while 2{" + word + "}}" + word + "}");
            body("while 1{try{" + word + "}on e{" + word + "}finish{}" + word + "}");
            badBody(1, "while 1{try{}finish{while 2{try{}finish{^" + word + "}}}}");
        }
    }

    static void returnInNoFinish() {
        Due.of("return stands in no finish");
        badBody(1, "try{}finish{^return 1;}");
        badBody(1, "try{}finish{while 1{^return 1;}}");
        badBody(1, "try{}finish{try{^return 1;}on e{}}");
        badBody(1, "try{}finish{try{}finish{}^return 1;}");
        body("try{return 1;}on e{return 2;}finish{}return 3;");
        body("try{}finish{}while 1{return 1;}");
    }

    static void childrenToldAnywhere() {
        Due.of("What is named behind child may be told anywhere in the text");
        Due.good("routine a(){}routine b(){wait child a();}");
        Due.good("routine b(){wait child a();}routine a(){}");
        Due.good("routine a(){wait child a();}");
        Due.good(routines(11) + "routine a(){wait child r0();wait child a();wait child r10();}");
    }

    static void letterNumbers() {
        Due.of("N: of letter 0 .. 7");
        for (int n = 0; n <= 7; n++) {
            body("wait letter " + n + ";");
        }
        badBody(4, "wait letter ^8;");
        badBody(4, "wait letter ^999999999;");
        badBody(1, "wait letter ^-1;");
        badBody(4, "wait both(letter 7,letter ^8);");
    }

    static void failNumbers() {
        Due.of("of fail 1 .. 9");
        badBody(4, "fail ^0;");
        for (int n = 1; n <= 9; n++) {
            Due.due("fail " + n, Runs.run("routine a(){fail " + n + ";}").task(0, 1), n);
        }
        badBody(4, "fail ^10;");
        badBody(4, "fail ^999999999;");
        badBody(1, "fail ^-1;");
    }

    static void twelveRoutines() {
        Due.of("At most 12 routines");
        Due.due("11", Due.with(routines(11)).count(0), 11);
        Due.due("12", Due.with(routines(12)).count(0), 12);
        Due.fault(5, routines(12) + "^routine a(){}");
        Sleepers x = Due.with(routines(12));
        Due.due("the last begins", x.begin(11, 0, 0, 0, 0), 0);
        Due.due("there is no 13th", x.begin(12, 0, 0, 0, 0), -1);
    }

    static void twelveCells() {
        Due.of("At most 12 CELLS of a routine");
        Due.due("11", Due.with("routine a(" + CELLS + "){}").routine(0, 1), 11);
        Due.due("12 in ( )", Due.with("routine a(" + CELLS + ",d){}").routine(0, 0), 12);
        Due.due("12 with one of the text", Due.with("routine a(" + CELLS + "){put d;}").routine(0, 1), 12);
        Due.fault(5, "routine a(" + CELLS + ",d,^e){}");
        Due.fault(5, "routine a(" + CELLS + ",d){^e=1;}");
        Due.fault(5, "routine a(" + CELLS + "){put d;put ^e;}");
        Due.fault(5, "routine a(" + CELLS + "){put d;try{}on ^e{}}");
        Due.good("routine a(" + CELLS + ",d){put d;c0=c10;try{}on d{}}");
        Due.good("routine a(" + CELLS + ",d){}routine b(" + CELLS + ",e){}");
        // None of them is mixed up with another.
        Sleepers x = Runs.run("routine a(" + CELLS + ",d){c0=10;c10=20;d=30;put c0;put c1;put c10;put d;}");
        Runs.puts(x, 10, 0, 20, 30);
    }

    static void sixteenWaits() {
        Due.of("16 waits of a routine (each STATEMENT with wait is one, numbered as they stand)");
        String one = "wait yield;";
        Due.due("none", Due.with("routine a(){}").routine(0, 2), 1);
        Due.due("15", Due.with("routine a(){" + one.repeat(15) + "}").routine(0, 2), 16);
        Due.due("16", Due.with("routine a(){" + one.repeat(16) + "}").routine(0, 2), 17);
        badBody(5, one.repeat(16) + "^wait yield;");
        badBody(5, one.repeat(16) + "x=^wait yield;");
        badBody(5, one.repeat(15) + "if 1{" + one + "}else{^wait yield;}");
        Due.good("routine a(){" + one.repeat(16) + "}routine b(){" + one.repeat(16) + "}");
        // WAITS in a wait are none of their own.
        Due.due("both", Due.with("routine a(){wait both(yield,first(yield,yield));}").routine(0, 2), 2);
        Sleepers x = Due.with("routine a(){" + one.repeat(16) + "}");
        x.begin(0, 0, 0, 0, 0);
        for (int k = 1; k <= 16; k++) {
            x.turn(0);
            Due.due("the wait it is in", x.task(0, 5), k);
        }
    }

    static void fourWaits() {
        Due.of("4 WAITS in the ( ) of one");
        for (String kind : new String[] {"both(", "first("}) {
            body("wait " + kind + "yield,yield,yield);");
            body("wait " + kind + "yield,yield,yield,yield);");
            badBody(5, "wait " + kind + "yield,yield,yield,yield,^yield);");
            body("wait " + kind + "yield,yield,yield," + kind + "yield,yield,yield,yield));");
            body("wait " + kind + kind + "yield,yield,yield,yield),yield,yield,yield);");
            badBody(5, "wait " + kind + kind + "yield),yield,yield,yield,^within 1 yield);");
        }
    }

    static void tenBlocks() {
        Due.of("10 BLOCKS within one another");
        String[] heads = {"if 1", "if 1{}else", "while 1", "try{}on e", "try{}finish"};
        for (String head : heads) {
            body(nested(8, head + "{", "", "}"));
            body(nested(9, head + "{", "", "}"));
            // What is ahead of its last BLOCK stands within as many.
            badBody(5, nested(9, head + "{", head.replaceFirst("[{].*", "") + "^{}", "}"));
        }
        body(nested(9, "try{", "", "}on e{}"));
        badBody(5, nested(9, "try{", "try^{}on e{}", "}on e{}"));
        // Side by side they are not within one another.
        body("if 1{}".repeat(30));
        body(nested(8, "if 1{", "if 1{}else{}while 1{}try{}on e{}finish{}", "}"));
    }

    static void tenWaits() {
        Due.of("10 WAITS within one another");
        String[][] pairs = {{"both(", ")"}, {"first(", ")"}, {"within 1 ", ""}};
        for (String[] pair : pairs) {
            body("wait " + nested(8, pair[0], "yield", pair[1]) + ";");
            body("wait " + nested(9, pair[0], "yield", pair[1]) + ";");
            badBody(5, "wait " + nested(10, pair[0], "^yield", pair[1]) + ";");
            badBody(5, "wait " + nested(10, pair[0], "^tick 1", pair[1]) + ";");
            badBody(5, "wait " + nested(10, pair[0], "^both(yield)", pair[1]) + ";");
        }
        body("wait both(" + nested(8, "first(", "yield", ")") + "," + nested(8, "within 1 ", "yield", "") + ");");
    }

    static void tenParts() {
        Due.of("10 PARTS within one another");
        String[][] pairs = {{"(", ")"}, {"-", ""}, {"(1+", ")"}};
        for (String[] pair : pairs) {
            body("put " + nested(8, pair[0], "1", pair[1]) + ";");
            body("put " + nested(9, pair[0], "1", pair[1]) + ";");
            body("put " + nested(9, pair[0], "clock", pair[1]) + ";");
            body("put " + nested(9, pair[0], "x", pair[1]) + ";");
        }
        for (String inner : new String[] {"^1", "^x", "^clock", "^(1)", "^-1"}) {
            badBody(5, "put " + nested(10, "(", inner, ")") + ";");
            badBody(5, "put " + nested(10, "-", inner, "") + ";");
            badBody(5, "put 1+" + nested(5, "-(", inner, ")") + ";");
        }
        // Wherever an E may stand.
        String[] places = {"x=%s;", "put %s;", "if %s{}", "while %s{}", "return %s;", "wait tick %s;", "wait within %s yield;", "wait child b(%s);"};
        for (String place : places) {
            Due.good("routine a(){" + place.formatted(nested(9, "(", "1", ")")) + "}routine b(n){}");
            Due.fault(5, "routine a(){" + place.formatted(nested(10, "(", "^1", ")")) + "}routine b(n){}");
        }
        // What stands side by side does not count.
        body("put " + nested(9, "(", "1+2*3-4", ")") + "*" + nested(9, "-", "5", "") + ";");
        Runs.puts(Runs.run("routine a(){put " + nested(9, "(1+", "1", ")") + ";put " + nested(9, "-", "5", "") + ";}"), 10, -5);
    }

    static void eachKindCountsItself() {
        Due.of("10 BLOCKS, WAITS, PARTS within one another: each within its own kind");
        String wait = "wait " + nested(9, "both(", "tick " + nested(9, "(", "1", ")"), ")") + ";";
        body(nested(9, "if " + nested(9, "(", "1", ")") + "{", wait, "}"));
    }

    static void placesOfFaults() {
        Due.of("kind + 16 * the place (from 0) of a token");
        Due.due("at 0", Due.program(new Sleepers(), ";"), 1);
        Due.due("at 1", Due.program(new Sleepers(), " ;"), 1 + 16);
        Due.due("at 2", Due.program(new Sleepers(), "\n\n;"), 1 + 32);
        Due.due("a longer token's first sign", Due.program(new Sleepers(), " routin"), 1 + 16);
        Due.due("far behind", Due.program(new Sleepers(), blanks(3999) + ";"), 1 + 16 * 3999);
        // What was left out of the TAPE has no place.
        Due.due("left out", Due.program(new Sleepers(), "\t\t ;"), 1 + 16);
    }

    static void placeOfTheEnd() {
        Due.of("the end being one at the text's length");
        Due.fault(1, "routine^");
        Due.fault(1, "routine  ^");
        Due.fault(1, "routine a(){\n^");
        Due.fault(1, "routine a(){put 1^");
        Due.due("of 3,999", Due.program(new Sleepers(), blanks(3992) + "routine"), 1 + 16 * 3999);
        Due.due("of 4,000", Due.program(new Sleepers(), blanks(3993) + "routine"), 1 + 16 * 4000);
    }

    static void firstFromTheLeft() {
        Due.of("of the first token from the left that is wrong");
        badBody(4, "fail ^0; ! wait letter 9;");
        badBody(1, "^! fail 0;");
        Due.fault(3, "routine a(b,^b){fail 0;}");
        Due.fault(1, "routine a(b,^!,b){fail 0;}");
        Due.fault(5, routines(12) + "^routine r0(){;}");
        Due.fault(4, "routine a(){wait child b();fail ^0;}");
    }

    static void theLeastKind() {
        Due.of("of the first token that is wrong the least [kind]");
        // Told already, and one too many: 3.
        Due.fault(3, "routine a(" + CELLS + ",d,^c0){}");
        // It can't stand there, and would be one too many: 1.
        badBody(1, "wait both(yield,yield,yield,yield,^x);");
        badBody(1, "put " + nested(10, "(", "^;", ")") + ";");
        badBody(1, "put " + nested(10, "(", "^abcdefghijklm", ")") + ";");
        badBody(1, nested(9, "if 1{", "if 1^;", "}"));
        badBody(1, "wait " + nested(10, "both(", "^put", ")") + ";");
        badBody(1, "wait yield;".repeat(16) + "put ^wait yield;");
        Due.fault(1, "routine a(" + CELLS + ",d){put 1 ^e;}");
        badBody(1, "fail ^1234567890;");
    }

    static void cannotStand() {
        Due.of("1 it is none, or can't stand there");
        badBody(1, "^!");
        badBody(1, "^)");
        badBody(1, "x^;");
        badBody(1, "^1=x;");
        Due.fault(1, "routine a(){put 1^}");
        badBody(1, "^yield;");
        badBody(1, "wait ^;");
    }

    static void notTold() {
        Due.of("2 a routine that is not told (looked for when all is read, and nothing else is wrong; the first such)");
        badBody(2, "wait child ^b();");
        badBody(2, "wait child ^b();wait child c();");
        Due.fault(2, "routine a(b){wait child ^b();}");
        Due.fault(2, "routine a(){wait both(child a(),child ^b(),child c());}");
        Due.fault(1, "routine a(){wait child b();}^;");
        Due.fault(3, "routine a(){wait child b();}routine ^a(){}");
        Due.fault(4, "routine a(){wait child b();fail ^0;}");
        Due.fault(5, "routine a(" + CELLS + ",d){wait child b();^e=1;}");
    }

    static void toldAlready() {
        Due.of("3 a NAME that is told (a routine's; a CELL twice in ( ))");
        Due.fault(3, "routine a(){}routine ^a(){}");
        Due.fault(3, "routine a(){}routine b(){}routine ^a(){}");
        Due.fault(3, "routine a(b,^b){}");
        Due.fault(3, "routine a(b,c,^b){}");
        Due.good("routine a(a){a=a;}routine b(a){b=a;}");
        Due.good("routine a(b){b=1;b=2;try{}on b{}}");
    }

    static void numberNotAsTold() {
        Due.of("4 a NUMBER that is not as told");
        badBody(4, "wait letter ^8;");
        badBody(4, "fail ^0;");
        badBody(4, "fail ^10;");
        badBody(1, "fail ^x;");
        badBody(1, "wait letter ^x;");
        body("put 999999999;wait tick 999999999;");
    }

    static void oneTooManyAtItsToken() {
        Due.of("5 one too many (a routine at its word, a CELL at it, a wait at that word, a WAIT at its first token)");
        Due.fault(5, routines(12) + "\n^routine ; ");
        Due.fault(5, "routine a(" + CELLS + ",d){put 1+ ^e ; }");
        badBody(5, "wait yield;".repeat(16) + "x= ^wait ;");
        badBody(5, "wait first(yield,yield,yield,yield, ^letter 9);");
        badBody(5, "wait first(yield,yield,yield,yield, ^child ;");
    }

    static void notAsManyE() {
        Due.of("6 not as many E as the routine has NAMES in ( ) (at the child's ROUTINE)");
        Due.fault(6, "routine a(){wait child ^a(1);}");
        Due.fault(6, "routine a(b){wait child ^a();}");
        Due.good("routine a(b){wait child a(1);}");
        Due.fault(6, "routine a(b){wait child ^a(1,2);}");
        Due.fault(6, "routine a(){wait child ^b(1,2);}routine b(c,d,e){}");
        Due.good("routine a(){wait child b(1,2,3);}routine b(c,d,e){f=g;}");
        Due.fault(6, "routine a(){wait child ^b(1,2,3,4);}routine b(c,d,e){f=g;}");
        Due.fault(6, "routine a(" + CELLS + ",d){wait child ^a(1,2,3,4,5,6,7,8,9,10,11);}");
        Due.fault(6, "routine a(" + CELLS + ",d){wait child ^a(1,2,3,4,5,6,7,8,9,10,11,12,13);}");
        Due.fault(4, "routine a(){wait child a(1);fail ^0;}");
    }

    static void firstOfBoth() {
        Due.of("looked for as in 2, the first of both");
        badBody(6, "wait child ^a(1);wait child b();");
        badBody(2, "wait child ^b(1);wait child a(1);");
        badBody(6, "wait both(child a(),child ^a(1),child b());");
    }

    static final String BUSY = "routine a(n){put n;wait letter 1;}routine b(){wait yield;}";

    static Sleepers busy() {
        Sleepers x = Due.with(BUSY);
        x.begin(0, 4, 0, 0, 0);
        x.begin(1, 0, 0, 0, 0);
        x.begin(1, 0, 0, 0, 0);
        x.rounds(3);
        x.cancel(1);
        x.letter(2, 9);
        x.tick(5);
        return x;
    }

    static final String OTHER = "routine c(n){put n;wait letter 2;}";

    static void noTaskIsThere() {
        Due.of("A PROGRAM without a FAULT takes the place of the one there was: no task is there");
        Sleepers x = busy();
        Due.due("program", Due.program(x, OTHER), 0);
        Due.row("count", x::count, 1, 0, 0, 0, 0);
        Due.none("task 0", () -> x.task(0, 0));
        Due.none("cell of task 0", () -> x.cell(0, 0));
        Due.due("row", x.row(0), -1);
        Due.due("turn", x.turn(0), -1);
        Due.due("cancel", x.cancel(0), false);
        Due.due("none stands", x.stands(1, 0), -1);
        Due.due("its name", Due.named(x, "c", -1), 0);
        Due.due("the old one's", Due.named(x, "a", -1), -1);
        Due.due("numbered from 0", x.begin(0, 6, 0, 0, 0), 0);
        Due.row("task 0", k -> x.task(0, k), 0, 0, 0, -1, 0, 0, 0, 0);
        x.turn(0);
        Due.due("put", x.put(0, 1), 6);
        Due.due("none of the old ones stands ahead", x.stands(2, 0), 0);
    }

    static void noTraceOfOldTasks() {
        Due.of("no task is there: nothing of the old ones is told of new ones");
        Sleepers x = Due.with("routine a(b,c,d,e,f,g){wait child k();}routine f(){fail 9;}routine r(){return 5;}routine c(){wait yield;}"
                + "routine k(){b=1;c=1;d=1;e=1;f=1;g=1;wait letter 0;}");
        for (int i = 0; i < 4; i++) {
            x.begin(i, 1, 1, 1, 1);
        }
        x.rounds(4);
        x.cancel(3);
        x.rounds(9);
        Due.row("how they ended", t -> x.task(t, 1), 0, 9, 0, 22, 0);
        Due.due("program", Due.program(x, "routine a(n){b=wait letter 0;put b;c=d;e=f;}"), 0);
        Due.due("ended", x.count(2), 0);
        for (int i = 0; i < 5; i++) {
            Due.due("begin", x.begin(0, 0, 0, 0, 0), i);
            int t = i;
            Due.row("task " + t, k -> x.task(t, k), 0, 0, 0, -1, 0, 0, 0, 0);
            Due.row("its cells", k -> x.cell(t, k), 0, 0, 0, 0, 0, 0);
        }
        x.rounds(5);
        Due.due("all stand", x.stands(0, 4), 4);
        x.letter(0, 6);
        Due.due("the first has no child to wait for", x.task(0, 0), 0);
        x.turn(0);
        Due.due("put", x.put(0, 1), 6);
        // A child's CELLS, too, are 0.
        Sleepers y = new Sleepers();
        for (int i = 0; i < 3; i++) {
            Due.program(y, "routine a(){wait child k();}routine k(){put b;put c;b=1;c=1;}");
            y.begin(0, 0, 0, 0, 0);
            y.rounds(9);
            Runs.puts(y, 0, 0);
        }
    }

    static void noTraceOfOldWaits() {
        Due.of("no task is there: no old wait hears of new tasks, no new wait of old ones");
        String old = "routine a(){wait both(child k(),child k(),child k());}routine k(){return 7;}";
        Sleepers x = Due.with(old);
        x.begin(0, 0, 0, 0, 0);
        x.turn(0);
        Due.due("program", Due.program(x, "routine a(){b=wait first(letter 0,letter 1,letter 2);put b;}routine k(){wait letter 3;}routine j(){return 8;}"), 0);
        x.begin(0, 0, 0, 0, 0);
        x.begin(1, 0, 0, 0, 0);
        x.begin(1, 0, 0, 0, 0);
        x.begin(2, 0, 0, 0, 0);
        x.rounds(4);
        // The last has ended: it was a child once.
        Due.due("it stands still", x.task(0, 0), 1);
        x.letter(1, 5);
        Due.row("none is CANCELLED", t -> x.task(t, 7), 0, 0, 0, 0);
        Due.due("at once in the row", x.row(0), 0);
        x.turn(0);
        Due.due("put", x.put(0, 1), 5);
    }

    static void againAndAgain() {
        Due.of("A PROGRAM without a FAULT takes the place of the one there was (whatever that was)");
        String[] texts = {
            "routine a(n){try{b=wait both(letter 0,child k(n));put b;fail 3;}on e{put e;}finish{put 9;wait tick 2;}}routine k(m){c=1;try{return m;}finish{wait letter 1;}}",
            "routine a(n,m){put m;while n{n=n-1;try{if n=1{continue;}c=wait first(letter 0,letter 1,tick 1);}on e{d=e;}put n;}return 5;}",
            "routine a(){wait yield;p=1;q=2;r=3;s=4;t=5;u=6;fail 7;}",
            "routine a(n){try{fail 1;}on e{put e;}while 1{wait letter 2;break;}wait letter 0;}routine b(){}routine c(x,y){wait tick 9;}",
            ""};
        String[] fresh = new String[texts.length];
        for (int i = 0; i < texts.length; i++) {
            fresh[i] = outcome(new Sleepers(), texts[i]);
        }
        for (int i = 0; i < texts.length * texts.length * texts.length; i++) {
            Sleepers x = new Sleepers();
            int[] three = {i % 5, i / 5 % 5, i / 25};
            for (int k : three) {
                Due.due("as on a new object", outcome(x, texts[k]).equals(fresh[k]), true);
            }
        }
    }

    /** What comes of a few calls; the STEPS in all go on from PROGRAM to PROGRAM. */
    static String outcome(Sleepers x, String text) {
        int ahead = x.count(8);
        StringBuilder told = new StringBuilder();
        told.append(Due.program(x, text)).append(' ');
        told.append(x.begin(0, 3, 8, 0, 0)).append(x.begin(0, 2, 7, 0, 0)).append(x.rounds(5));
        told.append(x.letter(0, 4)).append(x.letter(1, 5)).append(x.tick(3)).append(x.rounds(9)).append(' ');
        told.append(x.cancel(0)).append(x.letter(1, 6)).append(x.rounds(3)).append(' ');
        int tasks = x.count(1);
        for (int t = 0; t < tasks && t < 4; t++) {
            for (int k = 0; k < 8; k++) {
                told.append(x.task(t, k)).append(' ');
            }
            int cells = x.routine(x.task(t, 4), 1);
            for (int k = 0; k < cells; k++) {
                told.append(x.cell(t, k)).append(' ');
            }
        }
        for (int k = 0; k < 8; k++) {
            told.append(x.put(k, 1)).append(' ').append(x.row(k)).append(' ').append(x.box(k, 0)).append(x.stands(k, 0)).append(' ');
            told.append(k == 0 ? 0 : x.count(k)).append(x.next(0, 1, k % 3)).append(x.live(0, 1, k)).append(' ');
        }
        told.append(x.count(8) - ahead).append(' ').append(x.count(10));
        return told.toString();
    }

    static void noLetterIsThere() {
        Due.of("no letter [is there]");
        Sleepers x = busy();
        Due.due("it lies ahead", x.count(10), 1);
        Due.program(x, OTHER);
        Due.due("lying", x.count(10), 0);
        Due.due("box", x.box(2, 0), 0);
        x.begin(0, 0, 0, 0, 0);
        x.turn(0);
        Due.due("it stands", x.task(0, 0), 1);
        Due.due("an old one that stood takes nothing", x.letter(1, 3), -1);
        // Of all boxes, the first and the last, too.
        Sleepers y = Due.with("routine a(){wait letter 0;}routine b(){wait letter 7;}");
        for (int b = 1; b < 7; b++) {
            y.letter(b, 5);
        }
        y.begin(0, 0, 0, 0, 0);
        y.begin(1, 0, 0, 0, 0);
        y.rounds(2);
        Due.program(y, OTHER);
        Due.row("none stands", b -> y.stands(b, 0), -1, -1, -1, -1, -1, -1, -1, -1);
        Due.row("none lies", b -> y.box(b, 0), 0, 0, 0, 0, 0, 0, 0, 0);
        Due.row("each lies", b -> y.letter(b, 10 + b), -1, -1, -1, -1, -1, -1, -1, -1);
        Due.row("the first", b -> y.box(b, 0), 10, 11, 12, 13, 14, 15, 16, 17);
        Due.program(y, OTHER);
        Due.row("none lies", b -> y.box(b, 0), 0, 0, 0, 0, 0, 0, 0, 0);
    }

    static void clockIsZero() {
        Due.of("the CLOCK is 0");
        Sleepers x = Due.with("routine a(){wait tick 3;}");
        x.begin(0, 0, 0, 0, 0);
        x.turn(0);
        Due.due("tick", x.tick(2), 2);
        Due.program(x, "routine a(){wait tick 3;}");
        Due.due("clock", x.count(7), 0);
        Due.due("tick", x.tick(1), 1);
        Due.due("no old tick is due", x.count(3), 0);
        x.begin(0, 0, 0, 0, 0);
        x.turn(0);
        Due.due("tick", x.tick(2), 3);
        Due.due("not yet", x.count(3), 0);
        Due.due("tick", x.tick(1), 4);
        Due.due("now", x.count(3), 1);
        // Of several old ticks none comes to the new tasks.
        Sleepers y = Due.with("routine a(){wait tick 3;}");
        for (int i = 0; i < 4; i++) {
            y.begin(0, 0, 0, 0, 0);
        }
        y.rounds(4);
        Due.program(y, "routine a(){wait letter 0;}");
        for (int i = 0; i < 4; i++) {
            y.begin(0, 0, 0, 0, 0);
        }
        y.rounds(4);
        Due.due("tick", y.tick(10), 10);
        Due.due("none comes", y.count(3), 0);
    }

    static void booksAreEmpty() {
        Due.of("all books are empty");
        Sleepers x = busy();
        Due.due("puts ahead", x.count(5), 1);
        Due.due("lost ahead", x.count(6), 1);
        Due.program(x, OTHER);
        Due.due("puts", x.count(5), 0);
        Due.due("put", x.put(0, 0), -1);
        Due.due("lost", x.count(6), 0);
        Due.due("lost", x.lost(0, 0), -1);
    }

    static void stepsStayCounted() {
        Due.of("STEPS stay counted");
        Sleepers x = busy();
        Due.due("ahead", x.count(8), 8);
        Due.due("of the latest", x.count(9), 2);
        Due.program(x, OTHER);
        Due.due("behind", x.count(8), 8);
        Due.due("of the latest", x.count(9), 2);
        x.begin(0, 0, 0, 0, 0);
        x.turn(0);
        Due.due("further", x.count(8), 12);
    }

    static void elseAllStays() {
        Due.of("Else all stays");
        String[] faulty = {"!", "routine a(){", "routine c(){wait child d();}", "routine c(){}routine c(){}", "routine c(){fail 0;}",
            routines(13), "routine c(){wait child c(1);}"};
        int[] kinds = {1, 1, 2, 3, 4, 5, 6};
        for (int i = 0; i < faulty.length; i++) {
            Sleepers x = busy();
            String ahead = Runs.all(x);
            Due.due("kind of " + faulty[i], Due.program(x, faulty[i]) % 16, kinds[i]);
            Due.due("all is as it was", Runs.all(x).equals(ahead), true);
            Due.due("and goes on", x.letter(1, 5), 0);
            Due.due("and goes on", x.rounds(9), 3);
            Due.due("well", x.task(0, 1), 0);
        }
    }

    static void newObject() {
        Due.of("Promise 1: No program");
        Sleepers x = new Sleepers();
        Due.row("count", x::count, 0, 0, 0, 0, 0, 0, 0, 0, 0, 0, 0, 0);
        Due.none("routine", () -> x.routine(0, 0));
        Due.none("task", () -> x.task(0, 0));
        Due.none("cell", () -> x.cell(0, 0));
        Due.due("live", x.live(0, 0, 0), -1);
        Due.due("next", x.next(0, 0, 0), -1);
        Due.due("begin", x.begin(0, 0, 0, 0, 0), -1);
        Due.due("turn", x.turn(0), -1);
        Due.due("rounds", x.rounds(1), 0);
        Due.due("tick", x.tick(0), 0);
        Due.due("cancel", x.cancel(0), false);
        Due.due("row", x.row(0), -1);
        Due.due("put", x.put(0, 0), -1);
        Due.due("lost", x.lost(0, 0), -1);
        Due.due("stands", x.stands(0, 0), -1);
        Due.due("box", x.box(0, 0), 0);
        Due.due("named", Due.named(x, "a", -1), -1);
        Due.due("named", Due.named(x, "a", 0), -1);
        Due.due("an empty tape has no fault", x.program(), 0);
        // Two objects have nothing in common.
        Sleepers y = new Sleepers();
        Due.program(y, "routine a(){}");
        Due.due("routines of the other", x.count(0), 0);
    }

    static void feedUpTo24() {
        Due.of("Promise 2: Up to 24 signs come behind the TAPE");
        Sleepers x = new Sleepers();
        long full = 0x6161616161616161L;
        Due.due("none", x.feed(0, 0, 0), 0);
        Due.due("1", x.feed(0, 0, 0x61), 1);
        Due.due("23", x.feed(full, full, full >>> 8), 24);
        Due.due("24", x.feed(full, full, full), 48);
    }

    static void feedHighestFirst() {
        Due.of("Promise 2: the bytes of a, b, c, of each the highest first");
        Sleepers x = Due.with("routine abcdefghijkl(){}");
        Due.due("12", x.feed(0x6162636465666768L, 0x696A6B6CL, 0), 12);
        Due.due("abcdefgh ijkl", x.named(-1), 0);
        x.feed(0x6162630000000000L, 0x6465000066670000L, 0x68696A6B6CL);
        Due.due("with gaps", x.named(-1), 0);
        x.feed(0x6C6B6A6968676665L, 0x64636261L, 0);
        Due.due("the other way round", x.named(-1), -1);
        x.feed(0x61626364L, 0x65666768L, 0x696A6B6CL);
        Due.due("four of each", x.named(-1), 0);
        x.feed(0x65666768L, 0x61626364L, 0x696A6B6CL);
        Due.due("b ahead of a", x.named(-1), -1);
    }

    static void feedLeavesOut() {
        Due.of("Promise 2: others than 10 and 32 .. 126, and what is beyond 4,000, are left out");
        Sleepers x = Due.with("routine ab(){}");
        Due.due("left out", x.feed(0x0001080B0C0D1F7FL, 0x80818AA0E1FEFFFFL, -1), 0);
        Due.due("between two", x.feed(0x6100080B0C0D1F7FL, 0x80818AA0E1FEFFFFL, 0x62), 2);
        Due.due("they leave no gap", x.named(-1), 0);
        Due.due("10, 32, 126", x.feed(0x090A0B1F20217D7EL, 0x7F00000000000000L, 0), 5);
        x.program();
        Due.due("full but for one", Due.feed(x, blanks(3999)), 3999);
        // What is left out takes no room.
        Due.due("left out", x.feed(-1, 0x7F1F0B0900000000L, 0), 3999);
        Due.due("the last", x.feed(0x007F610000000000L, 0x62, 0x63), 4000);
        Due.due("the fault of the last", x.program(), 1 + 16 * 3999);
    }

    static void feedTellsHowMany() {
        Due.of("Promise 2: how many there are");
        Sleepers x = new Sleepers();
        Due.due("3", Due.feed(x, "abc"), 3);
        Due.due("3 and 2", Due.feed(x, "de"), 5);
        Due.due("none more", x.feed(0, 0, 0), 5);
        Due.due("count(11)", x.count(11), 5);
        x.named(-1);
        Due.due("none", x.feed(0, 0, 0), 0);
    }

    static void programTellsZero() {
        Due.of("Promise 3: 0, or its FAULT");
        Sleepers x = new Sleepers();
        Due.due("empty", x.program(), 0);
        Due.due("good", Due.program(x, "routine a(){}"), 0);
        Due.due("a fault", Due.program(x, "routine a(){"), 1 + 16 * 12);
        Due.due("good again", Due.program(x, "routine b(){}"), 0);
    }

    static void namedIsOneWord() {
        Due.of("Promise 4: The TAPE is one WORD .. NONE if there is none such");
        Sleepers x = Due.with("routine a(b){put a1;}routine ab(){}");
        Due.due("a", Due.named(x, "a", -1), 0);
        Due.due("blanks about it", Due.named(x, " \n a\n ", -1), 0);
        String[] others = {"", " ", "a b", "a a", "a;", "(a", "a!", "A", "1", "1a", "a 1", "wait", "routine", "aabcdefghijkl"};
        for (String other : others) {
            Due.due("named of " + other, Due.named(x, other, -1), -1);
            Due.due("cell of " + other, Due.named(x, other, 0), -1);
        }
    }

    static void namedRoutines() {
        Due.of("Promise 4: its number as a routine, .. NONE in the place of a routine for the first");
        Sleepers x = Due.with(routines(12));
        for (int i = 0; i < 12; i++) {
            Due.due("r" + i, Due.named(x, "r" + i, -1), i);
        }
        Due.due("r12", Due.named(x, "r12", -1), -1);
        Due.due("a CELL is no routine", Due.named(Due.with("routine a(b){}"), "b", -1), -1);
    }

    static void namedCells() {
        Due.of("Promise 4: (routine 0 ..) as a CELL of that one");
        Sleepers x = Due.with("routine a(" + CELLS + "){put d;}routine b(c1,c0){}");
        for (int i = 0; i <= 10; i++) {
            Due.due("c" + i, Due.named(x, "c" + i, 0), i);
        }
        Due.due("d", Due.named(x, "d", 0), 11);
        Due.due("c11", Due.named(x, "c11", 0), -1);
        Due.due("c0 of b", Due.named(x, "c0", 1), 1);
        Due.due("c1 of b", Due.named(x, "c1", 1), 0);
        Due.due("d of b", Due.named(x, "d", 1), -1);
        Due.due("a routine is no CELL", Due.named(x, "a", 0), -1);
        Due.due("a routine is no CELL", Due.named(x, "b", 1), -1);
    }

    static void namedNoSuchRoutine() {
        Due.of("Promise 4: NONE if there is none such (a routine that is not there)");
        Sleepers x = Due.with("routine a(a){}routine b(a){}");
        int[] none = {2, 3, 11, 12, Integer.MAX_VALUE, -2, -3, Integer.MIN_VALUE};
        for (int routine : none) {
            Due.due("a of " + routine, Due.named(x, "a", routine), -1);
        }
        Due.due("a of 1", Due.named(x, "a", 1), 0);
        // A PROGRAM of fewer routines leaves none of the old ones.
        Due.program(x, "routine a(a){}");
        Due.due("a of 1", Due.named(x, "a", 1), -1);
    }

    static void routineTells() {
        Due.of("Promise 5: what 0: its NAMES in ( ), 1: CELLS, 2: STATES");
        Sleepers x = Due.with("routine a(){}routine b(p){q=wait yield;wait yield;}routine c(" + CELLS + ",d){" + "wait yield;".repeat(16) + "}");
        Due.row("empty", k -> x.routine(0, k), 0, 0, 1);
        Due.row("ordinary", k -> x.routine(1, k), 1, 2, 3);
        Due.row("full", k -> x.routine(2, k), 12, 12, 17);
    }

    static void routineNoneSuch() {
        Due.of("Promise 5: NoSuchElementException: none such");
        Sleepers x = Due.with(routines(12));
        Due.due("the last", x.routine(11, 2), 1);
        int[] none = {-1, 12, 13, Integer.MIN_VALUE, Integer.MAX_VALUE};
        for (int k : none) {
            Due.none("routine " + k, () -> x.routine(k, 0));
        }
        int[] whats = {-1, 3, Integer.MIN_VALUE, Integer.MAX_VALUE};
        for (int what : whats) {
            Due.none("what " + what, () -> x.routine(0, what));
        }
        Due.program(x, "routine a(){}");
        Due.none("an old one", () -> x.routine(1, 0));
    }
}
