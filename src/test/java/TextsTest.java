/** Promises 1 to 5: the TAPE, TOKENS, PROGRAMS and their FAULTS. */
public final class TextsTest {
    public static void main(String[] args) {
        face();
        newObject();
        feeding();
        tokens();
        cannotStand();
        leavings();
        children();
        toldTwice();
        numbers();
        tooMany();
        within();
        leastKind();
        takesThePlace();
        faultsChangeNothing();
        names();
        routines();
        Due.end();
    }

    static void face() {
        Due.due("NONE", Sleepers.NONE, -1);
        int seen = 0;
        for (java.lang.reflect.Method m : Sleepers.class.getDeclaredMethods()) {
            if (!java.lang.reflect.Modifier.isPrivate(m.getModifiers())) {
                seen++;
            }
        }
        Due.due("methods of the face", seen, 20);
        Due.due("fields of the face", Sleepers.class.getFields().length, 1);
        for (java.lang.reflect.Field f : Sleepers.class.getDeclaredFields()) {
            Due.due("hidden or NONE: " + f, f.getName().equals("NONE")
                    || java.lang.reflect.Modifier.isPrivate(f.getModifiers()), true);
        }
    }

    static void newObject() {
        Sleepers x = new Sleepers();
        Due.row("count", x::count, 0, 0, 0, 0, 0, 0, 0, 0, 0, 0, 0, 0, -1);
        Due.due("count(-1)", x.count(-1), -1);
        Due.due("live", x.live(0, 0, 0), -1);
        Due.due("next", x.next(0, 0, 0), -1);
        Due.due("begin", x.begin(0, 1, 2, 3, 4), -1);
        Due.due("turn", x.turn(0), -1);
        Due.due("rounds", x.rounds(400), 0);
        Due.due("cancel", x.cancel(0), false);
        Due.due("row", x.row(0), -1);
        Due.due("put", x.put(0, 0), -1);
        Due.due("lost", x.lost(0, 0), -1);
        Due.due("box", x.box(0, 0), 0);
        Due.due("stands", x.stands(0, 0), -1);
        Due.none("routine", () -> x.routine(0, 0));
        Due.none("task", () -> x.task(0, 0));
        Due.none("cell", () -> x.cell(0, 0));
        Due.due("a letter without a program", x.letter(7, 5), -1);
        Due.due("it lies", x.box(7, 0), 5);
        Due.due("ticks without a program", x.tick(3), 3);
    }

    static void feeding() {
        Sleepers x = new Sleepers();
        Due.due("nothing", x.feed(0, 0, 0), 0);
        Due.due("highest first", x.feed(0x6162000000000063L, 0x6400000000000000L, 0x65L), 5);
        Due.due("the tape is abcde", Due.program(x, " routine"), 1);
        Due.due("taken", x.count(11), 0);
        Due.program(x, "routine ab ( ) { }");
        x.feed(0x6162000000000000L, 0, 0);
        Due.due("ab", x.named(-1), 0);
        x.feed(0, 0x61L, 0x6200000000000000L);
        Due.due("ab from two", x.named(-1), 0);
        Due.due("signs left out", x.feed(0x091F7F80FF0D0B00L, -1, 0x0A207E0000000000L), 3);
        Due.due("on the tape", x.count(11), 3);
        x.program();
        for (int i = 0; i < 166; i++) {
            x.feed(0x2020202020202020L, 0x2020202020202020L, 0x2020202020202020L);
        }
        Due.due("3984", x.count(11), 3984);
        Due.due("beyond 4000", x.feed(0x2020202020202020L, 0x2020202020202020L, 0x6161616161616161L), 4000);
        Due.due("full", x.feed(0x6161616161616161L, 0, 0), 4000);
        Due.due("blanks alone", x.program(), 0);
        Due.due("no routine", x.count(0), 0);
    }

    static void tokens() {
        Due.good("");
        Due.good(" \n ");
        Due.good("routine a(){}routine b(x,y){x=1;y=x;}");
        Due.good("routine\na\n(\n)\n{\n}\n");
        Due.good("routine abcdefghijkl ( a1b2c3d4e5f6 ) { put 123456789 ; }");
        Due.fault(1, "routine ^abcdefghijklm ( ) { }");
        Due.fault(1, "routine a ( ) { put ^1234567890 ; }");
        Due.fault(1, "routine a ( ) { ^A = 1 ; }");
        Due.fault(1, "routine a ( ) { x = 1 ^! ; }");
        Due.fault(1, "routine a ( ) { put 1^a ; }");
        Due.fault(1, "^1");
        Due.fault(1, "^~");
        Due.good("routine a ( ) { wait within 1yield ; }");
        Due.good("routine a ( ) { put 000000001 ; }");
        Due.fault(1, "routine a ( ) { put 1 ^> 2 ; }");
        Due.fault(1, "routine^");
        Due.fault(1, "routine a ( ) {   ^");
        Due.fault(1, "routine a ( ) { } ^;");
    }

    static void cannotStand() {
        Due.fault(1, "routine ^wait ( ) { }");
        Due.fault(1, "routine a ^{ }");
        Due.fault(1, "routine a ( x , ^) { }");
        Due.fault(1, "routine a ( ^, x ) { }");
        Due.fault(1, "routine a ( ^if ) { }");
        Due.fault(1, "routine a ( x ^y ) { }");
        Due.fault(1, "routine a ( ) ^routine");
        Due.fault(1, "routine a ( ) { ^; }");
        Due.fault(1, "routine a ( ) { ^else { } }");
        Due.fault(1, "routine a ( ) { ^clock = 1 ; }");
        Due.fault(1, "routine a ( ) { x ^; }");
        Due.fault(1, "routine a ( ) { x = ^; }");
        Due.fault(1, "routine a ( ) { x = 1 ^}");
        Due.fault(1, "routine a ( ) { x = 1 + ^* 2 ; }");
        Due.fault(1, "routine a ( ) { put 1 < 2 ^< 3 ; }");
        Due.fault(1, "routine a ( ) { put 1 = 2 ^= 3 ; }");
        Due.good("routine a ( ) { put ( 1 < 2 ) = 3 ; put - - 1 ; put -x ; }");
        Due.fault(1, "routine a ( ) { put ( 1 ^; }");
        Due.fault(1, "routine a ( ) { put ( ^) ; }");
        Due.fault(1, "routine a ( ) { if 1 ^; }");
        Due.fault(1, "routine a ( ) { if 1 { } else ^if 2 { } }");
        Due.fault(1, "routine a ( ) { while ^{ } }");
        Due.fault(1, "routine a ( ) { try { } ^}");
        Due.fault(1, "routine a ( ) { try { } on ^{ } }");
        Due.fault(1, "routine a ( ) { try { } on ^on { } }");
        Due.fault(1, "routine a ( ) { try { } finish { } ^on e { } }");
        Due.good("routine a ( ) { try { } on e { } try { } finish { } try { } on e { } finish { } }");
        Due.fault(1, "routine a ( ) { fail ^x ; }");
        Due.fault(1, "routine a ( ) { fail 1 ^+ 1 ; }");
        Due.fault(1, "routine a ( ) { return ^; }");
        Due.fault(1, "routine a ( ) { wait ^; }");
        Due.fault(1, "routine a ( ) { wait ^x ; }");
        Due.fault(1, "routine a ( ) { ^letter 0 ; }");
        Due.fault(1, "routine a ( ) { wait letter ^( 0 ) ; }");
        Due.fault(1, "routine a ( ) { wait tick ^; }");
        Due.fault(1, "routine a ( ) { wait yield ^1 ; }");
        Due.fault(1, "routine a ( ) { wait both ^yield ; }");
        Due.fault(1, "routine a ( ) { wait both ( ^) ; }");
        Due.fault(1, "routine a ( ) { wait first ( yield , ^) ; }");
        Due.fault(1, "routine a ( ) { wait within ^yield ; }");
        Due.fault(1, "routine a ( ) { wait within 1 ^2 yield ; }");
        Due.fault(1, "routine a ( ) { wait child ^if ( ) ; }");
        Due.fault(1, "routine a ( ) { wait child a ^; }");
        Due.fault(1, "routine a ( ) { wait child a ( ^, 1 ) ; }");
        Due.fault(1, "routine a ( ) { wait child a ( 1 , ^) ; }");
        Due.good("routine a ( ) { wait within 1 - 2 within x yield ; x = wait both ( tick 1 , letter 7 ) ; }");
    }

    static void leavings() {
        Due.fault(1, "routine a ( ) { ^break ; }");
        Due.fault(1, "routine a ( ) { while 1 { } ^continue ; }");
        Due.fault(1, "routine a ( ) { while 1 { } } routine b ( ) { ^break ; }");
        Due.fault(1, "routine a ( ) { while 1 { try { } finish { ^break ; } } }");
        Due.fault(1, "routine a ( ) { while 1 { try { } finish { try { ^continue ; } on e { } } } }");
        Due.fault(1, "routine a ( ) { try { } finish { if 1 { ^return 1 ; } } }");
        Due.fault(1, "routine a ( ) { try { } finish { while 1 { ^return 1 ; } } }");
        Due.good("routine a ( ) { while 1 { try { break ; } on e { continue ; } } }");
        Due.good("routine a ( ) { try { } finish { while 1 { break ; } } return 1 ; }");
        Due.good("routine a ( ) { while 1 { try { } finish { while 2 { if 1 { continue ; } } } break ; } }");
        Due.good("routine a ( ) { try { return 1 ; } on e { return 2 ; } finish { } }");
    }

    static void children() {
        Due.good("routine a ( ) { wait child b ( 1 ) ; } routine b ( x ) { wait child b ( x ) ; }");
        Due.fault(2, "routine a ( ) { wait child ^b ( ) ; }");
        Due.fault(2, "routine a ( ) { wait child ^b ( ) ; wait child c ( ) ; }");
        Due.fault(2, "routine a ( x ) { wait child ^x ( ) ; }");
        Due.fault(6, "routine a ( ) { wait child ^a ( 1 ) ; }");
        Due.fault(6, "routine a ( x ) { wait child ^a ( ) ; }");
        Due.fault(6, "routine a ( x ) { wait child ^a ( 1 , 2 ) ; wait child b ( ) ; }");
        Due.fault(2, "routine a ( x ) { wait child ^b ( ) ; wait child a ( 1 , 2 ) ; }");
        Due.fault(1, "routine a ( ) { wait child b ( ) ; ^+ }");
        Due.fault(4, "routine a ( ) { wait child b ( ) ; } routine c ( ) { fail ^0 ; }");
    }

    static void toldTwice() {
        Due.fault(3, "routine a ( ) { } routine ^a ( ) { }");
        Due.fault(3, "routine a ( x , y , ^x ) { }");
        Due.good("routine a ( a ) { } routine b ( a ) { b = a ; }");
        Due.fault(3, "routine a ( a0,a1,a2,a3,a4,a5,a6,a7,a8,a9,a10,a11,^a0 ) { }");
    }

    static void numbers() {
        Due.good("routine a ( ) { wait letter 0 ; wait letter 7 ; wait letter 007 ; }");
        Due.fault(4, "routine a ( ) { wait letter ^8 ; }");
        Due.fault(4, "routine a ( ) { wait both ( yield , letter ^999999999 ) ; }");
        Due.fault(4, "routine a ( ) { fail ^0 ; }");
        Due.good("routine a ( ) { if 1 { fail 1 ; } fail 9 ; }");
        Due.fault(4, "routine a ( ) { fail ^10 ; }");
        Due.fault(4, "routine a ( ) { fail ^10 + ; }");
    }

    static void tooMany() {
        StringBuilder twelve = new StringBuilder();
        for (int i = 0; i < 12; i++) {
            twelve.append("routine r").append(i).append("(){}");
        }
        Due.good(twelve.toString());
        Due.fault(5, twelve + " ^routine r0 ( ) { }");
        Due.fault(1, twelve + " ^r0");
        String cells = "c0,c1,c2,c3,c4,c5,c6,c7,c8,c9,c10,c11";
        Due.good("routine a (" + cells + ") { c0 = c11 ; }");
        Due.fault(5, "routine a (" + cells + ",^c12 ) { }");
        Due.fault(5, "routine a (" + cells + ") { put c0 + ^x ; }");
        Due.fault(5, "routine a (" + cells + ") { ^x 1 }");
        Due.fault(5, "routine a (" + cells + ") { try { } on ^x { } }");
        Due.fault(5, "routine a (" + cells + ") { wait child a ( ^x ) ; }");
        Due.good("routine a ( ) { " + Due.times(16, "wait yield;") + " }");
        Due.fault(5, "routine a ( ) { " + Due.times(16, "wait yield;") + " ^wait yield ; }");
        Due.fault(5, "routine a ( ) { " + Due.times(16, "wait yield;") + " x = ^wait x ; }");
        Due.good("routine a ( ) { " + Due.times(16, "wait yield;") + " } routine b ( ) { wait yield ; }");
        Due.good("routine a ( ) { wait both ( yield , yield , yield , first ( yield , yield , yield , yield ) ) ; }");
        Due.fault(5, "routine a ( ) { wait both ( yield , yield , yield , yield , ^yield ) ; }");
        Due.fault(5, "routine a ( ) { wait first ( yield , yield , yield , yield , ^letter 9 ) ; }");
        Due.fault(1, "routine a ( ) { wait both ( yield , yield , yield , yield , ^x ) ; }");
        Due.fault(1, "routine a ( ) { wait both ( yield , yield , yield , yield , ^) ; }");
    }

    static void within() {
        Due.good("routine a ( ) " + Due.times(9, "{ if 1 ") + "{ }" + Due.times(9, "}"));
        Due.fault(5, "routine a ( ) " + Due.times(10, "{ if 1 ") + "^{ }" + Due.times(10, "}"));
        Due.fault(5, "routine a ( ) " + Due.times(9, "{ while 1 ") + "{ try ^{ } }" + Due.times(9, "}"));
        Due.fault(5, "routine a ( ) " + Due.times(9, "{ if 1 { } else ") + "{ if 1 ^{ } }" + Due.times(9, "}"));
        Due.fault(1, "routine a ( ) " + Due.times(10, "{ if 1 ") + "^; }" + Due.times(10, "}"));
        Due.good("routine a ( ) { wait " + Due.times(9, "both(") + "yield" + Due.times(9, ")") + "; }");
        Due.fault(5, "routine a ( ) { wait " + Due.times(10, "first(") + "^yield" + Due.times(10, ")") + "; }");
        Due.fault(5, "routine a ( ) { wait " + Due.times(10, "within 1 ") + "^letter 0 ; }");
        Due.fault(1, "routine a ( ) { wait " + Due.times(10, "within 1 ") + "^; }");
        Due.good("routine a ( ) { put " + Due.times(9, "(") + "1" + Due.times(9, ")") + "; }");
        Due.fault(5, "routine a ( ) { put " + Due.times(10, "(") + "^1" + Due.times(10, ")") + "; }");
        Due.fault(5, "routine a ( ) { put " + Due.times(10, "-") + "^clock ; }");
        Due.good("routine a ( ) { put " + Due.times(9, "-") + "1 +" + Due.times(9, "-") + "1; }");
        Due.fault(5, "routine a ( ) { wait tick " + Due.times(5, "-(") + "^x" + Due.times(5, ")") + "; }");
        Due.good("routine a ( ) " + Due.times(9, "{ if 1 ") + "{ wait " + Due.times(9, "both(")
                + "tick " + Due.times(9, "(") + "1" + Due.times(9, ")") + Due.times(9, ")") + ";}" + Due.times(9, "}"));
    }

    static void leastKind() {
        Due.fault(4, "routine a ( ) { fail ^0 ; } routine a ( ) { }");
        Due.fault(3, "routine a ( x , ^x , x ) ! { }");
        Due.fault(1, "routine a ( ) { x = ^) ; wait child b ( ) ; }");
    }

    static void takesThePlace() {
        Sleepers x = Due.with("routine a ( ) { put 1 ; wait letter 1 ; } routine b ( ) { }");
        x.begin(0, 0, 0, 0, 0);
        x.begin(0, 0, 0, 0, 0);
        x.rounds(2);
        x.letter(1, 4);
        x.letter(2, 5);
        x.tick(7);
        x.cancel(0);
        Due.row("count ahead", x::count, 2, 2, 0, 1, 1, 2, 1, 7, 8, 4, 1, 0);
        Due.due("program", Due.program(x, "routine z ( ) { wait letter 2 ; }"), 0);
        Due.row("count behind", x::count, 1, 0, 0, 0, 0, 0, 0, 0, 8, 4, 0, 0);
        Due.due("no put", x.put(0, 0), -1);
        Due.due("no lost", x.lost(0, 0), -1);
        Due.due("no letter", x.box(2, 0), 0);
        Due.due("none stands", x.stands(1, 0), -1);
        Due.none("no task", () -> x.task(0, 0));
        Due.due("numbered from 0", x.begin(0, 0, 0, 0, 0), 0);
        x.turn(0);
        Due.due("stands for its own box", x.stands(2, 0), 0);
        Due.due("tick", x.tick(1), 1);
    }

    static void faultsChangeNothing() {
        Sleepers x = Due.with("routine a ( p ) { put p ; q = wait tick 5 ; }");
        x.begin(0, 3, 0, 0, 0);
        x.turn(0);
        x.tick(2);
        x.letter(0, 9);
        Due.due("fault", Due.program(x, "routine b ( ) { fail 0 ; }"), 4 + 16 * 21);
        Due.row("count", x::count, 1, 1, 0, 0, 1, 1, 0, 2, 5, 5, 1, 0);
        Due.due("its name", Due.named(x, "a", -1), 0);
        Due.due("the other's", Due.named(x, "b", -1), -1);
        Due.due("its cell", x.cell(0, 0), 3);
        Due.due("its state", x.task(0, 0), 1);
        x.tick(3);
        Due.due("it comes", x.row(0), 0);
        Due.due("its tables", x.live(0, 0, 0), 1);
        Due.due("an empty one", x.program(), 0);
        Due.due("routines", x.count(0), 0);
    }

    static void names() {
        Sleepers x = Due.with("routine one ( x , y ) { z = y ; try { } on w { v = u ; } } routine two ( ) { wait child one ( q , r ) ; q = 1 ; }");
        Due.due("one", Due.named(x, "one", -1), 0);
        Due.due("two", Due.named(x, "\n two  ", -1), 1);
        Due.due("taken", x.count(11), 0);
        Due.due("nothing", x.named(-1), -1);
        Due.due("three", Due.named(x, "three", -1), -1);
        String[] cells = {"x", "y", "z", "w", "v", "u"};
        for (int i = 0; i < cells.length; i++) {
            Due.due(cells[i], Due.named(x, cells[i], 0), i);
        }
        Due.due("one is no cell", Due.named(x, "one", 0), -1);
        Due.due("q", Due.named(x, "q", 1), 0);
        Due.due("r", Due.named(x, "r", 1), 1);
        Due.due("x of two", Due.named(x, "x", 1), -1);
        Due.due("no such routine", Due.named(x, "x", 2), -1);
        Due.due("taken all the same", x.count(11), 0);
        Due.due("routine -2", Due.named(x, "one", -2), -1);
        Due.due("two words", Due.named(x, "one two", -1), -1);
        Due.due("a word and a sign", Due.named(x, "one;", -1), -1);
        Due.due("a number", Due.named(x, "1", -1), -1);
        Due.due("reserved", Due.named(x, "wait", -1), -1);
        Due.due("too long", Due.named(x, "onetwothreefo", -1), -1);
    }

    static void routines() {
        Sleepers x = Due.with("routine a ( x , y ) { z = wait yield ; wait yield ; } routine b ( ) { }");
        Due.row("routine 0", k -> x.routine(0, k), 2, 3, 3);
        Due.row("routine 1", k -> x.routine(1, k), 0, 0, 1);
        Due.none("routine 2", () -> x.routine(2, 0));
        Due.none("routine -1", () -> x.routine(-1, 0));
        Due.none("what 3", () -> x.routine(0, 3));
        Due.none("what -1", () -> x.routine(0, -1));
    }
}
