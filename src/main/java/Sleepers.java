import java.util.NoSuchElementException;

/**
 * Routines that are written as if they could stand still in their midst: their texts are turned
 * into acts, their acts into tables, and tasks of them are run turn by turn.
 */
public final class Sleepers {
    public static final int NONE = -1;

    private static final int MOST_SIGNS = 4000;
    private static final int MOST_ROUTINES = 12;
    private static final int MOST_CELLS = 12;
    private static final int MOST_WAITS = 16;
    private static final int MOST_TOGETHER = 4;
    private static final int MOST_WITHIN = 10;
    private static final int MOST_TASKS = 200;
    private static final int MOST_LETTERS = 50;
    private static final int MOST_TOLD = 300;
    private static final int MOST_ROUNDS = 400;
    private static final int MOST_TICKS = 10000;
    private static final int MOST_TURN_STEPS = 3000;
    private static final int MOST_STEPS = 100000;
    private static final int BOXES = 8;

    // No sign of a text makes more than two acts, no 9 signs more than one while or try or child.
    private static final int MOST_ACTS = 2 * MOST_SIGNS + 64;
    private static final int MOST_MARKED = MOST_SIGNS / 9 + 16;

    // Far above what any run can need: an end that every loop has.
    private static final int MOST_LOOPS = 1000000;
    private static final int GREATEST = 2147483647;

    private static final int BY_ZERO = 11;
    private static final int TOO_LATE = 21;
    private static final int CANCELLED = 22;
    private static final int TOO_MANY = 23;
    private static final int WORN_OUT = 24;

    private final Tokens tokens = new Tokens();
    private final Parser parser = new Parser(tokens);
    private final Tables tables = new Tables();
    private final Hall hall = new Hall();
    private final Runner runner = new Runner(hall);
    private Program told = new Program();
    private Program spare = new Program();

    public Sleepers() {
        hall.open(told);
    }

    public int feed(long a, long b, long c) {
        tokens.add(a);
        tokens.add(b);
        tokens.add(c);
        return tokens.signs;
    }

    public int program() {
        tokens.read();
        int fault = parser.read(spare);
        if (fault == 0) {
            Program old = told;
            told = spare;
            spare = old;
            hall.open(told);
            runner.puts.clear();
        }
        return fault;
    }

    public int named(int routine) {
        tokens.read();
        long word = tokens.onlyWord();
        if (word == 0) {
            return NONE;
        }
        return routine == NONE ? told.routineNamed(word) : told.cellNamed(routine, word);
    }

    public int routine(int k, int what) throws NoSuchElementException {
        if (!told.has(k) || what < 0 || what > 2) {
            throw new NoSuchElementException("no such routine");
        }
        if (what == 0) {
            return told.given[k];
        }
        return what == 1 ? told.cells[k] : 1 + told.waits[k];
    }

    public int live(int routine, int state, int cell) {
        if (!told.hasState(routine, state) || cell < 0 || cell >= told.cells[routine]) {
            return NONE;
        }
        return tables.readsFirst(told, routine, state, cell) ? 1 : 0;
    }

    public int next(int routine, int state, int to) {
        if (!told.hasState(routine, state) || !told.hasState(routine, to)) {
            return NONE;
        }
        return tables.leadsTo(told, routine, state, to) ? 1 : 0;
    }

    public int begin(int routine, int a, int b, int c, int d) {
        if (!told.has(routine)) {
            return NONE;
        }
        Task fresh = hall.newTask(routine, null);
        if (fresh == null) {
            return NONE;
        }
        int given = told.given[routine];
        fresh.set(0, given > 0 ? a : 0);
        fresh.set(1, given > 1 ? b : 0);
        fresh.set(2, given > 2 ? c : 0);
        fresh.set(3, given > 3 ? d : 0);
        return fresh.number;
    }

    public int turn(int k) {
        return runner.takeTurn(k);
    }

    public int rounds(int n) {
        if (n < 0 || n > MOST_ROUNDS) {
            return NONE;
        }
        int taken = 0;
        while (taken < n && runner.takeTurn(0) != NONE) {
            taken++;
        }
        return taken;
    }

    public int letter(int box, int v) {
        return hall.deliver(box, v);
    }

    public int tick(int n) {
        if (n < 0 || n > MOST_TICKS) {
            return NONE;
        }
        hall.pass(n);
        return hall.clock;
    }

    public boolean cancel(int task) {
        return hall.callOff(task);
    }

    public int task(int t, int what) throws NoSuchElementException {
        if (!hall.has(t) || what < 0 || what > 7) {
            throw new NoSuchElementException("no such task");
        }
        return hall.tasks[t].tell(what);
    }

    public int cell(int t, int k) throws NoSuchElementException {
        if (!hall.has(t) || k < 0 || k >= told.cells[hall.tasks[t].routine]) {
            throw new NoSuchElementException("no such cell");
        }
        return hall.tasks[t].look(k);
    }

    public int row(int k) {
        return k < 0 || k >= hall.rowCount ? NONE : hall.row[k];
    }

    public int put(int i, int what) {
        return runner.puts.tell(i, what);
    }

    public int lost(int i, int what) {
        return hall.lost.tell(i, what);
    }

    public int box(int b, int k) {
        if (b < 0 || b >= BOXES || k < 0 || k >= hall.letterCount[b]) {
            return 0;
        }
        return hall.letters[b * MOST_LETTERS + k];
    }

    public int stands(int b, int k) {
        return b < 0 || b >= BOXES ? NONE : hall.lines[b].taskAt(k);
    }

    public int count(int what) {
        switch (what) {
            case 0: return told.routines;
            case 1: return hall.taskCount;
            case 2: return hall.endedCount;
            case 3: return hall.rowCount;
            case 4: return hall.taskCount - hall.endedCount - hall.rowCount;
            case 5: return runner.puts.size;
            case 6: return hall.lost.size;
            case 7: return hall.clock;
            case 8: return runner.allSteps;
            case 9: return runner.turnSteps;
            case 10: return hall.lettersLying();
            case 11: return tokens.signs;
            default: return NONE;
        }
    }

    /** The TAPE, and the TOKENS that it is read as. */
    private static final class Tokens {
        static final int END = 0;
        static final int NOTHING = 1;
        static final int NUMBER = 2;
        static final int WORD = 3;
        // Where the parser stands behind a fault: no rule of the grammar takes it.
        static final int STOP = 4;

        // A sign is its own kind; the reserved words follow in the order of RESERVED.
        static final int ROUTINE = 200;
        static final int WAIT = 201;
        static final int PUT = 202;
        static final int IF = 203;
        static final int ELSE = 204;
        static final int WHILE = 205;
        static final int BREAK = 206;
        static final int CONTINUE = 207;
        static final int RETURN = 208;
        static final int FAIL = 209;
        static final int TRY = 210;
        static final int ON = 211;
        static final int FINISH = 212;
        static final int LETTER = 213;
        static final int TICK = 214;
        static final int YIELD = 215;
        static final int CHILD = 216;
        static final int BOTH = 217;
        static final int FIRST = 218;
        static final int WITHIN = 219;
        static final int CLOCK = 220;

        static final int STOPPED = MOST_SIGNS + 1;

        private static final String RESERVED = "routine wait put if else while break continue return fail try on finish letter tick yield child both first within clock";
        private static final int RESERVED_WORDS = 21;
        private static final String SIGNS = "{}(),;=<+-*/%";
        private static final int LONGEST_WORD = 12;
        private static final int LONGEST_NUMBER = 9;

        final int[] kind = new int[MOST_SIGNS + 2];
        final int[] place = new int[MOST_SIGNS + 2];
        final long[] value = new long[MOST_SIGNS + 2];
        int count;
        int signs;
        private final char[] tape = new char[MOST_SIGNS];
        private final long[] reserved = new long[RESERVED_WORDS];

        Tokens() {
            kind[STOPPED] = STOP;
            int n = 0;
            long word = 0;
            for (int i = 0; i <= RESERVED.length() && n < RESERVED_WORDS; i++) {
                char c = i < RESERVED.length() ? RESERVED.charAt(i) : ' ';
                if (c == ' ') {
                    reserved[n] = word;
                    n++;
                    word = 0;
                } else {
                    word = longer(word, c);
                }
            }
        }

        void add(long eight) {
            for (int shift = 56; shift >= 0; shift -= 8) {
                int sign = (int) (eight >>> shift) & 255;
                if ((sign == 10 || sign >= 32 && sign <= 126) && signs < MOST_SIGNS) {
                    tape[signs] = (char) sign;
                    signs++;
                }
            }
        }

        void read() {
            count = 0;
            int at = 0;
            for (int i = 0; i < MOST_SIGNS && at < signs; i++) {
                char c = tape[at];
                if (isLetter(c)) {
                    at = readWord(at);
                } else if (isDigit(c)) {
                    at = readNumber(at);
                } else {
                    if (c != ' ' && c != '\n') {
                        keep(SIGNS.indexOf(c) < 0 ? NOTHING : c, at, 0);
                    }
                    at++;
                }
            }
            keep(END, signs, 0);
            signs = 0;
        }

        /** The WORD that is all of what was read, 0 if it is something else. */
        long onlyWord() {
            return count == 2 && kind[0] == WORD ? value[0] : 0;
        }

        private int readWord(int from) {
            int to = from;
            long word = 0;
            while (to < signs && (isLetter(tape[to]) || isDigit(tape[to]))) {
                word = longer(word, tape[to]);
                to++;
            }
            keep(to - from > LONGEST_WORD ? NOTHING : kindOf(word), from, word);
            return to;
        }

        private int readNumber(int from) {
            int to = from;
            long number = 0;
            while (to < signs && isDigit(tape[to])) {
                number = number * 10 + (tape[to] - '0');
                to++;
            }
            keep(to - from > LONGEST_NUMBER ? NOTHING : NUMBER, from, number);
            return to;
        }

        private int kindOf(long word) {
            for (int i = 0; i < RESERVED_WORDS; i++) {
                if (reserved[i] == word) {
                    return ROUTINE + i;
                }
            }
            return WORD;
        }

        private void keep(int itsKind, int itsPlace, long itsValue) {
            if (count < STOPPED) {
                kind[count] = itsKind;
                place[count] = itsPlace;
                value[count] = itsValue;
                count++;
            }
        }

        // Twelve digits of base 37 fit a long, so every WORD has a number of its own.
        private static long longer(long word, char c) {
            return word * 37 + (isDigit(c) ? 27 + (c - '0') : 1 + (c - 'a'));
        }

        private static boolean isLetter(char c) {
            return c >= 'a' && c <= 'z';
        }

        private static boolean isDigit(char c) {
            return c >= '0' && c <= '9';
        }
    }

    /** The tries and whiles of a PROGRAM: where that leads to which leaves a place. */
    private static final class Scopes {
        // A scope is 3 * try + the BLOCK of it, NONE outside of all.
        static final int BLOCKS = 3;
        static final int IN_FIRST = 0;
        static final int IN_ON = 1;
        static final int IN_FINISH = 2;

        static final int ON = 1;
        static final int FINISH = 2;
        static final int BREAK = 4;
        static final int CONTINUE = 8;

        int tries;
        final int[] outer = new int[MOST_MARKED];
        final int[] deep = new int[MOST_MARKED];
        final int[] loopAbout = new int[MOST_MARKED];
        final int[] onAt = new int[MOST_MARKED];
        final int[] finishAt = new int[MOST_MARKED];
        final int[] behindTry = new int[MOST_MARKED];
        private final int[] marks = new int[MOST_MARKED];

        int loops;
        final int[] loopScope = new int[MOST_MARKED];
        final int[] loopAt = new int[MOST_MARKED];
        final int[] behindLoop = new int[MOST_MARKED];

        void clear() {
            tries = 0;
            loops = 0;
        }

        int newTry(int scope, int loop) {
            if (tries >= MOST_MARKED) {
                return NONE;
            }
            outer[tries] = scope;
            deep[tries] = scope < 0 ? 0 : deep[scope / BLOCKS] + 1;
            loopAbout[tries] = loop;
            marks[tries] = 0;
            tries++;
            return tries - 1;
        }

        int newLoop(int scope, int at) {
            if (loops >= MOST_MARKED) {
                return NONE;
            }
            loopScope[loops] = scope;
            loopAt[loops] = at;
            loops++;
            return loops - 1;
        }

        void mark(int tried, int what) {
            marks[tried] |= what;
        }

        /** All tries between a place and what it is left for know by what they are left. */
        void markOutward(int scope, int stop, int what) {
            int at = scope;
            for (int i = 0; i < MOST_MARKED && at >= 0 && at != stop; i++) {
                marks[at / BLOCKS] |= what;
                at = outer[at / BLOCKS];
            }
        }

        boolean is(int tried, int what) {
            return (marks[tried] & what) != 0;
        }

        int failureTo(int scope, int end) {
            int at = scope;
            for (int i = 0; i < MOST_MARKED && at >= 0; i++) {
                int tried = at / BLOCKS;
                if (at % BLOCKS == IN_FIRST && is(tried, ON)) {
                    return onAt[tried];
                }
                if (at % BLOCKS != IN_FINISH && is(tried, FINISH)) {
                    return finishAt[tried];
                }
                at = outer[tried];
            }
            return end;
        }

        int cancelTo(int scope, int end) {
            return leaveTo(scope, NONE, end);
        }

        int leaveTo(int scope, int stop, int end) {
            int at = scope;
            for (int i = 0; i < MOST_MARKED && at >= 0 && at != stop; i++) {
                int tried = at / BLOCKS;
                if (at % BLOCKS != IN_FINISH && is(tried, FINISH)) {
                    return finishAt[tried];
                }
                at = outer[tried];
            }
            return end;
        }

        int breakTo(int scope, int loop) {
            return leaveTo(scope, loopScope[loop], behindLoop[loop]);
        }

        int continueTo(int scope, int loop) {
            return leaveTo(scope, loopScope[loop], loopAt[loop]);
        }
    }

    /** A PROGRAM as acts, one behind the other, and what its routines are. */
    private static final class Program {
        static final int STATEMENT = 0;
        static final int PART = 1;
        static final int NUMBER = 2;
        static final int CELL = 3;
        static final int CLOCK = 4;
        static final int NEGATE = 5;
        static final int ADD = 6;
        static final int SUBTRACT = 7;
        static final int MULTIPLY = 8;
        static final int DIVIDE = 9;
        static final int REMAINDER = 10;
        static final int LESS = 11;
        static final int SAME = 12;
        static final int LAST_OF_SUMS = 12;

        static final int STORE = 13;
        static final int NOTE = 14;
        static final int UNLESS = 15;
        static final int JUMP = 16;
        static final int BREAK = 17;
        static final int CONTINUE = 18;
        static final int RETURN = 19;
        static final int FAIL = 20;
        static final int BLOCK_END = 21;
        static final int CATCH = 22;
        static final int FINISH_END = 23;
        static final int END = 24;
        static final int LAST_OF_FLOW = 24;

        static final int WAIT = 25;
        static final int START = 26;
        static final int LETTER = 27;
        static final int TICK = 28;
        static final int YIELD = 29;
        static final int CHILD = 30;
        static final int BOTH = 31;
        static final int FIRST = 32;
        static final int WITHIN = 33;
        static final int CLOSE = 34;
        static final int STAND = 35;

        // The acts that are STEPS; START is that of a WAIT whose E are worked out ahead of it.
        private static final long STEPS = 1L << STATEMENT | 1L << PART | 1L << NUMBER | 1L << CELL
                | 1L << CLOCK | 1L << START | 1L << LETTER | 1L << YIELD | 1L << BOTH | 1L << FIRST;

        int size;
        final int[] op = new int[MOST_ACTS];
        final int[] arg = new int[MOST_ACTS];
        final int[] scope = new int[MOST_ACTS];
        final Scopes scopes = new Scopes();

        int routines;
        final int[] start = new int[MOST_ROUTINES];
        final int[] end = new int[MOST_ROUTINES];
        final int[] given = new int[MOST_ROUTINES];
        final int[] cells = new int[MOST_ROUTINES];
        final int[] waits = new int[MOST_ROUTINES];
        final int[] standAt = new int[MOST_ROUTINES * MOST_WAITS];
        private final long[] names = new long[MOST_ROUTINES];
        private final long[] cellNames = new long[MOST_ROUTINES * MOST_CELLS];

        void clear() {
            size = 0;
            routines = 0;
            scopes.clear();
        }

        boolean has(int routine) {
            return routine >= 0 && routine < routines;
        }

        boolean hasState(int routine, int state) {
            return has(routine) && state >= 0 && state <= waits[routine];
        }

        int scopeAt(int at) {
            return at >= 0 && at < size ? scope[at] : NONE;
        }

        static boolean isStep(int itsOp) {
            return (STEPS >>> itsOp & 1) != 0;
        }

        int emit(int itsOp, int itsArg, int itsScope) {
            if (size >= MOST_ACTS) {
                return MOST_ACTS - 1;
            }
            op[size] = itsOp;
            arg[size] = itsArg;
            scope[size] = itsScope;
            size++;
            return size - 1;
        }

        void openRoutine(long name) {
            if (routines < MOST_ROUTINES) {
                names[routines] = name;
                start[routines] = size;
                given[routines] = 0;
                cells[routines] = 0;
                waits[routines] = 0;
                routines++;
            }
        }

        void closeRoutine() {
            if (routines > 0) {
                end[routines - 1] = emit(END, 0, NONE);
            }
        }

        int routineNamed(long name) {
            for (int i = 0; i < routines; i++) {
                if (names[i] == name) {
                    return i;
                }
            }
            return NONE;
        }

        int cellNamed(int routine, long name) {
            int most = has(routine) ? cells[routine] : 0;
            for (int i = 0; i < most; i++) {
                if (cellNames[routine * MOST_CELLS + i] == name) {
                    return i;
                }
            }
            return NONE;
        }

        /** A CELL of the latest routine, a new one if need be; NONE: it would be one too many. */
        int cellOf(long name) {
            int routine = routines - 1;
            if (routine < 0) {
                return NONE;
            }
            for (int i = 0; i < cells[routine]; i++) {
                if (cellNames[routine * MOST_CELLS + i] == name) {
                    return i;
                }
            }
            if (cells[routine] >= MOST_CELLS) {
                return NONE;
            }
            cellNames[routine * MOST_CELLS + cells[routine]] = name;
            cells[routine]++;
            return cells[routine] - 1;
        }

        /** A further wait of the latest routine; NONE: it would be one too many. */
        int newWait() {
            int routine = routines - 1;
            if (routine < 0 || waits[routine] >= MOST_WAITS) {
                return NONE;
            }
            waits[routine]++;
            return waits[routine] - 1;
        }

        void setStand(int wait, int at) {
            if (routines > 0 && wait >= 0 && wait < MOST_WAITS) {
                standAt[(routines - 1) * MOST_WAITS + wait] = at;
            }
        }
    }

    /** Reads TOKENS as a PROGRAM; what is wrong first stops it, for no rule takes Tokens.STOP. */
    private static final class Parser {
        private static final int CANNOT_STAND = 1;
        private static final int NOT_TOLD = 2;
        private static final int TOLD_ALREADY = 3;
        private static final int NOT_AS_TOLD = 4;
        private static final int ONE_TOO_MANY = 5;
        private static final int NOT_AS_MANY = 6;

        private final Tokens tokens;
        private Program program;
        private Scopes scopes;
        private int at;
        private int fault;
        // Where the next act stands: its scope, the while that it may leave, the finishes about it.
        private int scope;
        private int loop;
        private int finishes;

        // The children's routines may be told behind them: they are looked for at the end.
        private int children;
        private final int[] childAct = new int[MOST_MARKED];
        private final int[] childPlace = new int[MOST_MARKED];
        private final int[] childGiven = new int[MOST_MARKED];
        private final long[] childName = new long[MOST_MARKED];

        Parser(Tokens itsTokens) {
            tokens = itsTokens;
        }

        /** 0, or the FAULT. */
        int read(Program fresh) {
            program = fresh;
            program.clear();
            scopes = program.scopes;
            at = 0;
            fault = 0;
            scope = NONE;
            loop = NONE;
            finishes = 0;
            children = 0;
            for (int i = 0; i <= MOST_ROUTINES && kind() == Tokens.ROUTINE; i++) {
                header();
                block(0);
                program.closeRoutine();
            }
            if (kind() != Tokens.END) {
                wrong(CANNOT_STAND);
            }
            findChildren();
            return fault;
        }

        private int kind() {
            return tokens.kind[at];
        }

        private void step() {
            if (at + 1 < tokens.count) {
                at++;
            }
        }

        private boolean take(int wanted) {
            if (tokens.kind[at] != wanted || at + 1 >= tokens.count) {
                return false;
            }
            at++;
            return true;
        }

        private void need(int wanted) {
            if (!take(wanted)) {
                wrong(CANNOT_STAND);
            }
        }

        private void wrong(int what) {
            if (fault == 0) {
                fault = what + 16 * tokens.place[at];
                at = Tokens.STOPPED;
            }
        }

        private int emit(int op, int arg) {
            return program.emit(op, arg, scope);
        }

        private void header() {
            if (program.routines >= MOST_ROUTINES) {
                wrong(ONE_TOO_MANY);
            }
            step();
            if (kind() != Tokens.WORD) {
                wrong(CANNOT_STAND);
            } else if (program.routineNamed(tokens.value[at]) != NONE) {
                wrong(TOLD_ALREADY);
            } else {
                program.openRoutine(tokens.value[at]);
                step();
            }
            need('(');
            if (kind() == Tokens.WORD) {
                givenCell();
                for (int i = 0; i < MOST_SIGNS && take(','); i++) {
                    givenCell();
                }
            }
            need(')');
        }

        private void givenCell() {
            int routine = program.routines - 1;
            if (kind() != Tokens.WORD) {
                wrong(CANNOT_STAND);
            } else if (program.cellNamed(routine, tokens.value[at]) != NONE) {
                wrong(TOLD_ALREADY);
            } else if (program.cellOf(tokens.value[at]) == NONE) {
                wrong(ONE_TOO_MANY);
            } else {
                program.given[routine]++;
                step();
            }
        }

        private void block(int depth) {
            if (kind() != '{') {
                wrong(CANNOT_STAND);
            } else if (depth >= MOST_WITHIN) {
                wrong(ONE_TOO_MANY);
            } else {
                step();
                for (int i = 0; i < MOST_SIGNS && startsStatement(kind()); i++) {
                    statement(depth + 1);
                }
                need('}');
            }
        }

        private static boolean startsStatement(int kind) {
            return kind == Tokens.WORD
                    || kind >= Tokens.WAIT && kind <= Tokens.TRY && kind != Tokens.ELSE;
        }

        private static boolean startsWait(int kind) {
            return kind >= Tokens.LETTER && kind <= Tokens.WITHIN;
        }

        private void statement(int depth) {
            int first = emit(Program.STATEMENT, 0);
            switch (kind()) {
                case Tokens.IF:
                    step();
                    choice(depth);
                    return;
                case Tokens.WHILE:
                    step();
                    repeated(depth, first);
                    return;
                case Tokens.TRY:
                    step();
                    tried(depth);
                    return;
                case Tokens.WORD:
                case Tokens.WAIT:
                    assigned();
                    break;
                case Tokens.PUT:
                    step();
                    expression(0);
                    emit(Program.NOTE, 0);
                    break;
                case Tokens.RETURN:
                    returned();
                    break;
                case Tokens.FAIL:
                    step();
                    emit(Program.FAIL, numberOf(1, 9));
                    break;
                default:
                    leftLoop();
            }
            need(';');
        }

        private void assigned() {
            int cell = NONE;
            if (kind() == Tokens.WORD) {
                cell = cellHere();
                need('=');
            }
            if (kind() != Tokens.WAIT) {
                expression(0);
            } else {
                int wait = program.newWait();
                if (wait == NONE) {
                    wrong(ONE_TOO_MANY);
                    return;
                }
                step();
                emit(Program.WAIT, 1 + wait);
                waitFor(0);
                program.setStand(wait, emit(Program.STAND, 1 + wait));
            }
            if (cell != NONE) {
                emit(Program.STORE, cell);
            }
        }

        private void returned() {
            if (finishes > 0) {
                wrong(CANNOT_STAND);
            }
            step();
            expression(0);
            emit(Program.RETURN, program.routines - 1);
        }

        private void leftLoop() {
            boolean breaks = kind() == Tokens.BREAK;
            if (loop < 0) {
                wrong(CANNOT_STAND);
                return;
            }
            step();
            emit(breaks ? Program.BREAK : Program.CONTINUE, loop);
            scopes.markOutward(scope, scopes.loopScope[loop],
                    breaks ? Scopes.BREAK : Scopes.CONTINUE);
        }

        private void choice(int depth) {
            expression(0);
            int unless = emit(Program.UNLESS, 0);
            block(depth);
            if (take(Tokens.ELSE)) {
                int jump = emit(Program.JUMP, 0);
                program.arg[unless] = program.size;
                block(depth);
                program.arg[jump] = program.size;
            } else {
                program.arg[unless] = program.size;
            }
        }

        private void repeated(int depth, int first) {
            int about = loop;
            int itself = scopes.newLoop(scope, first);
            if (itself == NONE) {
                wrong(ONE_TOO_MANY);
                return;
            }
            expression(0);
            int unless = emit(Program.UNLESS, 0);
            loop = itself;
            block(depth);
            loop = about;
            emit(Program.JUMP, first);
            program.arg[unless] = program.size;
            scopes.behindLoop[itself] = program.size;
        }

        private void tried(int depth) {
            int about = scope;
            int itself = scopes.newTry(about, loop);
            if (itself == NONE) {
                wrong(ONE_TOO_MANY);
                return;
            }
            scope = itself * Scopes.BLOCKS + Scopes.IN_FIRST;
            block(depth);
            emit(Program.BLOCK_END, itself);
            if (kind() != Tokens.ON && kind() != Tokens.FINISH) {
                wrong(CANNOT_STAND);
            }
            if (take(Tokens.ON)) {
                scope = itself * Scopes.BLOCKS + Scopes.IN_ON;
                scopes.mark(itself, Scopes.ON);
                scopes.onAt[itself] = emit(Program.CATCH, cellHere());
                block(depth);
                emit(Program.BLOCK_END, itself);
            }
            if (take(Tokens.FINISH)) {
                scope = itself * Scopes.BLOCKS + Scopes.IN_FINISH;
                scopes.mark(itself, Scopes.FINISH);
                finished(depth, itself);
            }
            scopes.behindTry[itself] = program.size;
            scope = about;
        }

        private void finished(int depth, int itself) {
            int about = loop;
            // No while about the try may be left from within its finish.
            loop = NONE;
            finishes++;
            scopes.finishAt[itself] = program.size;
            block(depth);
            emit(Program.FINISH_END, itself);
            finishes--;
            loop = about;
        }

        private void waitFor(int depth) {
            int kind = kind();
            if (!startsWait(kind)) {
                wrong(CANNOT_STAND);
                return;
            }
            if (depth >= MOST_WITHIN) {
                wrong(ONE_TOO_MANY);
                return;
            }
            step();
            switch (kind) {
                case Tokens.LETTER:
                    emit(Program.LETTER, numberOf(0, BOXES - 1));
                    break;
                case Tokens.YIELD:
                    emit(Program.YIELD, 0);
                    break;
                case Tokens.TICK:
                    emit(Program.START, 0);
                    expression(0);
                    emit(Program.TICK, 0);
                    break;
                case Tokens.CHILD:
                    emit(Program.START, 0);
                    int named = at;
                    need(Tokens.WORD);
                    int given = listed(Program.CHILD, depth);
                    keepChild(named, given, emit(Program.CHILD, 0));
                    break;
                case Tokens.WITHIN:
                    emit(Program.START, 0);
                    expression(0);
                    emit(Program.WITHIN, 0);
                    waitFor(depth + 1);
                    emit(Program.CLOSE, 0);
                    break;
                default:
                    int op = kind == Tokens.BOTH ? Program.BOTH : Program.FIRST;
                    int opened = emit(op, 0);
                    program.arg[opened] = listed(op, depth);
                    emit(Program.CLOSE, 0);
            }
        }

        /** What stands in the ( ) of a WAIT: how many E of a child, WAITS of another. */
        private int listed(int op, int depth) {
            boolean sums = op == Program.CHILD;
            int several = 0;
            need('(');
            boolean more = !sums || kind() != ')';
            for (int i = 0; i < MOST_SIGNS && more; i++) {
                if (sums) {
                    expression(0);
                } else {
                    if (several >= MOST_TOGETHER && startsWait(kind())) {
                        wrong(ONE_TOO_MANY);
                    }
                    waitFor(depth + 1);
                }
                several++;
                more = take(',');
            }
            need(')');
            return several;
        }

        private void keepChild(int named, int given, int act) {
            if (children < MOST_MARKED) {
                childAct[children] = act;
                childPlace[children] = tokens.place[named];
                childName[children] = tokens.value[named];
                childGiven[children] = given;
                children++;
            }
        }

        private void findChildren() {
            for (int i = 0; i < children && fault == 0; i++) {
                int routine = program.routineNamed(childName[i]);
                if (routine == NONE) {
                    fault = NOT_TOLD + 16 * childPlace[i];
                } else if (program.given[routine] != childGiven[i]) {
                    fault = NOT_AS_MANY + 16 * childPlace[i];
                } else {
                    program.arg[childAct[i]] = routine;
                }
            }
        }

        private void expression(int depth) {
            sum(depth);
            int kind = kind();
            if (kind == '<' || kind == '=') {
                step();
                sum(depth);
                emit(kind == '<' ? Program.LESS : Program.SAME, 0);
            }
        }

        private void sum(int depth) {
            product(depth);
            int kind = kind();
            for (int i = 0; i < MOST_SIGNS && (kind == '+' || kind == '-'); i++) {
                step();
                product(depth);
                emit(kind == '+' ? Program.ADD : Program.SUBTRACT, 0);
                kind = kind();
            }
        }

        private void product(int depth) {
            part(depth);
            int kind = kind();
            for (int i = 0; i < MOST_SIGNS && (kind == '*' || kind == '/' || kind == '%'); i++) {
                step();
                part(depth);
                if (kind == '*') {
                    emit(Program.MULTIPLY, 0);
                } else {
                    emit(kind == '/' ? Program.DIVIDE : Program.REMAINDER, 0);
                }
                kind = kind();
            }
        }

        private void part(int depth) {
            int kind = kind();
            boolean starts = kind == Tokens.NUMBER || kind == Tokens.WORD || kind == Tokens.CLOCK
                    || kind == '(' || kind == '-';
            if (!starts || depth >= MOST_WITHIN) {
                wrong(starts ? ONE_TOO_MANY : CANNOT_STAND);
                return;
            }
            if (kind == Tokens.WORD) {
                emit(Program.CELL, cellHere());
                return;
            }
            int number = (int) tokens.value[at];
            step();
            if (kind == Tokens.NUMBER) {
                emit(Program.NUMBER, number);
            } else if (kind == Tokens.CLOCK) {
                emit(Program.CLOCK, 0);
            } else if (kind == '(') {
                emit(Program.PART, 0);
                expression(depth + 1);
                need(')');
            } else {
                emit(Program.PART, 0);
                part(depth + 1);
                emit(Program.NEGATE, 0);
            }
        }

        private int cellHere() {
            if (kind() != Tokens.WORD) {
                wrong(CANNOT_STAND);
                return 0;
            }
            int cell = program.cellOf(tokens.value[at]);
            if (cell == NONE) {
                wrong(ONE_TOO_MANY);
                return 0;
            }
            step();
            return cell;
        }

        private int numberOf(int least, int most) {
            long number = tokens.value[at];
            if (kind() != Tokens.NUMBER) {
                wrong(CANNOT_STAND);
                return least;
            }
            if (number < least || number > most) {
                wrong(NOT_AS_TOLD);
                return least;
            }
            step();
            return (int) number;
        }
    }

    /** What can come behind a STATE: the WAYS are walked from act to act. */
    private static final class Tables {
        private final int[] seen = new int[MOST_ACTS];
        private final int[] open = new int[MOST_ACTS];
        private int openCount;
        // Every walk marks with a number of its own, so that nothing has to be wiped.
        private int walk;
        private Program program;

        boolean readsFirst(Program itsProgram, int routine, int state, int cell) {
            set(itsProgram, routine, state);
            for (int i = 0; i < MOST_ACTS && openCount > 0; i++) {
                openCount--;
                int at = open[openCount];
                int op = program.op[at];
                boolean itsOwn = program.arg[at] == cell;
                if (op == Program.CELL && itsOwn) {
                    return true;
                }
                if (!itsOwn || op != Program.STORE && op != Program.CATCH) {
                    follow(routine, at);
                }
            }
            return false;
        }

        boolean leadsTo(Program itsProgram, int routine, int state, int to) {
            set(itsProgram, routine, state);
            for (int i = 0; i < MOST_ACTS && openCount > 0; i++) {
                openCount--;
                int at = open[openCount];
                int op = program.op[at];
                if (op != Program.STAND && op != Program.END) {
                    follow(routine, at);
                } else if (to == (op == Program.END ? 0 : program.arg[at])) {
                    return true;
                }
            }
            return false;
        }

        private void set(Program itsProgram, int routine, int state) {
            program = itsProgram;
            walk++;
            openCount = 0;
            if (state == 0) {
                reach(program.start[routine]);
            } else {
                follow(routine, program.standAt[routine * MOST_WAITS + state - 1]);
            }
        }

        private void reach(int at) {
            if (at >= 0 && at < program.size && seen[at] != walk) {
                seen[at] = walk;
                open[openCount] = at;
                openCount++;
            }
        }

        private void follow(int routine, int at) {
            Scopes scopes = program.scopes;
            int scope = program.scope[at];
            int arg = program.arg[at];
            int end = program.end[routine];
            switch (program.op[at]) {
                case Program.STAND:
                    reach(scopes.cancelTo(scope, end));
                    reach(scopes.failureTo(scope, end));
                    reach(at + 1);
                    break;
                case Program.DIVIDE:
                case Program.REMAINDER:
                    reach(scopes.failureTo(scope, end));
                    reach(at + 1);
                    break;
                case Program.FAIL:
                    reach(scopes.failureTo(scope, end));
                    break;
                case Program.UNLESS:
                    reach(arg);
                    reach(at + 1);
                    break;
                case Program.JUMP:
                    reach(arg);
                    break;
                case Program.BREAK:
                    reach(scopes.breakTo(scope, arg));
                    break;
                case Program.CONTINUE:
                    reach(scopes.continueTo(scope, arg));
                    break;
                case Program.RETURN:
                    reach(scopes.cancelTo(scope, end));
                    break;
                case Program.BLOCK_END:
                    reach(scopes.is(arg, Scopes.FINISH) ? scopes.finishAt[arg] : scopes.behindTry[arg]);
                    break;
                case Program.FINISH_END:
                    followFinish(arg, end);
                    break;
                case Program.END:
                    break;
                default:
                    reach(at + 1);
            }
        }

        private void followFinish(int tried, int end) {
            Scopes scopes = program.scopes;
            int outer = scopes.outer[tried];
            int loop = scopes.loopAbout[tried];
            reach(scopes.behindTry[tried]);
            reach(scopes.failureTo(outer, end));
            // A return would lead to where a CANCEL does.
            reach(scopes.cancelTo(outer, end));
            if (loop >= 0 && scopes.is(tried, Scopes.BREAK)) {
                reach(scopes.breakTo(outer, loop));
            }
            if (loop >= 0 && scopes.is(tried, Scopes.CONTINUE)) {
                reach(scopes.continueTo(outer, loop));
            }
        }
    }

    /** A book of tasks and numbers, of which the first are told. */
    private static final class Book {
        int size;
        private final int[] tasks = new int[MOST_TOLD];
        private final int[] numbers = new int[MOST_TOLD];

        void note(int itsTask, int number) {
            if (size < MOST_TOLD) {
                tasks[size] = itsTask;
                numbers[size] = number;
            }
            size++;
        }

        int tell(int i, int what) {
            if (i < 0 || i >= size || i >= MOST_TOLD || what < 0 || what > 1) {
                return NONE;
            }
            return what == 0 ? tasks[i] : numbers[i];
        }

        void clear() {
            size = 0;
        }
    }

    /** A task, and where it stands. */
    private static final class Task {
        static final int IN_ROW = 0;
        static final int IN_WAIT = 1;
        static final int FOR_CHILDREN = 2;
        static final int ENDED = 3;
        static final int RUNNING = 4;
        static final int BEGINNING = 5;

        final int number;
        int routine;
        Task parent;
        Part asPart;
        int state;
        int how;
        int result;
        int at;
        int turns;
        boolean cancelled;
        int pc;
        final int[] cells = new int[MOST_CELLS];

        // By what the finish BLOCKS are done that stand open, by the depth of their tries.
        final int[] leftBy = new int[MOST_WITHIN];
        final int[] leftWith = new int[MOST_WITHIN];

        // The wait: its WAITS from the latest, the one about the next, children that have not
        // ended, and what it came to (Part.PENDING until then).
        Part latest;
        Part root;
        Part about;
        int children;
        int outcome;
        int value;

        Task(int itsNumber) {
            number = itsNumber;
        }

        int look(int k) {
            return k >= 0 && k < MOST_CELLS ? cells[k] : 0;
        }

        void set(int k, int value) {
            if (k >= 0 && k < MOST_CELLS) {
                cells[k] = value;
            }
        }

        int tell(int what) {
            switch (what) {
                case 0: return state;
                case 1: return how;
                case 2: return result;
                case 3: return parent == null ? NONE : parent.number;
                case 4: return routine;
                case 5: return at;
                case 6: return turns;
                default: return cancelled ? 1 : 0;
            }
        }
    }

    /** A WAIT that has begun. */
    private static final class Part {
        static final int LETTER = 0;
        static final int YIELD = 1;
        static final int TICK = 2;
        static final int CHILD = 3;
        static final int BOTH = 4;
        static final int FIRST = 5;
        static final int WITHIN = 6;

        static final int PENDING = 0;
        static final int COME = 1;
        static final int FAILED = 2;
        static final int LET_GO = 3;
        // Of a task's wait alone.
        static final int STOPPED = 4;

        Task owner;
        int kind;
        int status;
        int value;
        // Of a both: the WAITS that have not come yet.
        int left;
        int due;
        Task child;
        Part about;
        Part before;

        Line line;
        Part ahead;
        Part behind;

        /** One in it has come or failed: whether it does so, too. */
        boolean hears(int itsStatus, int itsValue) {
            if (kind == BOTH && itsStatus == COME) {
                value += itsValue;
                left--;
                if (left > 0) {
                    return false;
                }
                status = COME;
            } else {
                status = itsStatus;
                value = itsValue;
            }
            return true;
        }

        /** Whether one about it has come, failed or been let go already. */
        boolean isAdrift() {
            for (Part p = about; p != null; p = p.about) {
                if (p.status != PENDING) {
                    return true;
                }
            }
            return false;
        }
    }

    /** Those that stand for a box, or for ticks. */
    private static final class Line {
        Part first;
        private Part last;

        /** Behind all that are due no later; where nothing is due, at the end. */
        void add(Part part) {
            Part front = last;
            while (front != null && front.due > part.due) {
                front = front.ahead;
            }
            Part back = front == null ? first : front.behind;
            part.line = this;
            part.ahead = front;
            part.behind = back;
            if (front == null) {
                first = part;
            } else {
                front.behind = part;
            }
            if (back == null) {
                last = part;
            } else {
                back.ahead = part;
            }
        }

        void remove(Part part) {
            if (part.ahead == null) {
                first = part.behind;
            } else {
                part.ahead.behind = part.behind;
            }
            if (part.behind == null) {
                last = part.ahead;
            } else {
                part.behind.ahead = part.ahead;
            }
            part.line = null;
            part.ahead = null;
            part.behind = null;
        }

        int taskAt(int k) {
            Part part = k < 0 ? null : first;
            for (int i = 0; i < k && part != null; i++) {
                part = part.behind;
            }
            return part == null ? NONE : part.owner.number;
        }

        void clear() {
            first = null;
            last = null;
        }
    }

    /** The tasks, their ROW, their waits, and all that they can wait for. */
    private static final class Hall {
        private static final int MOST_AGENDA = 2 * MOST_TASKS + 16;

        Program program;
        final Task[] tasks = new Task[MOST_TASKS];
        int taskCount;
        int endedCount;
        final int[] row = new int[MOST_TASKS];
        int rowCount;
        int clock;
        final int[] letters = new int[BOXES * MOST_LETTERS];
        final int[] letterCount = new int[BOXES];
        final Line[] lines = new Line[BOXES];
        final Line alarms = new Line();
        final Book lost = new Book();

        // What a let go has still to do, the next at its end: a task to cancel, or the complement
        // of one that is to be looked at when its children were cancelled. A chain of tasks may
        // be 200 long: calls within calls would go too deep.
        private final int[] agenda = new int[MOST_AGENDA];
        private int agendaCount;
        private Part unused;

        Hall() {
            for (int i = 0; i < BOXES; i++) {
                lines[i] = new Line();
            }
        }

        void open(Program itsProgram) {
            program = itsProgram;
            for (int i = 0; i < taskCount; i++) {
                takeBack(tasks[i]);
            }
            taskCount = 0;
            endedCount = 0;
            rowCount = 0;
            clock = 0;
            for (int i = 0; i < BOXES; i++) {
                letterCount[i] = 0;
                lines[i].clear();
            }
            alarms.clear();
            lost.clear();
        }

        boolean has(int number) {
            return number >= 0 && number < taskCount;
        }

        int lettersLying() {
            int all = 0;
            for (int i = 0; i < BOXES; i++) {
                all += letterCount[i];
            }
            return all;
        }

        /** A task at the end of the ROW; null: there are as many as may be. */
        Task newTask(int routine, Task parent) {
            if (taskCount >= MOST_TASKS) {
                return null;
            }
            Task t = tasks[taskCount];
            if (t == null) {
                t = new Task(taskCount);
                tasks[taskCount] = t;
            }
            taskCount++;
            t.routine = routine;
            t.parent = parent;
            t.asPart = null;
            t.how = 0;
            t.result = 0;
            t.at = 0;
            t.turns = 0;
            t.cancelled = false;
            t.pc = program.start[routine];
            for (int i = 0; i < MOST_CELLS; i++) {
                t.cells[i] = 0;
            }
            t.children = 0;
            t.outcome = Part.PENDING;
            enterRow(t);
            return t;
        }

        private void enterRow(Task t) {
            if (rowCount < MOST_TASKS) {
                row[rowCount] = t.number;
                rowCount++;
            }
            t.state = Task.IN_ROW;
        }

        /** The k-th of the ROW, which leaves it; null: there is none such. */
        Task leaveRow(int k) {
            if (k < 0 || k >= rowCount) {
                return null;
            }
            Task t = tasks[row[k]];
            rowCount--;
            for (int i = k; i < rowCount; i++) {
                row[i] = row[i + 1];
            }
            return t;
        }

        /** A WAIT of a task begins, within the one that is about it. */
        Part newPart(Task t, int kind) {
            Part part = unused;
            if (part == null) {
                part = new Part();
            } else {
                unused = part.before;
            }
            part.owner = t;
            part.kind = kind;
            part.status = Part.PENDING;
            part.value = 0;
            part.left = 0;
            part.due = 0;
            part.child = null;
            part.about = t.about;
            part.before = t.latest;
            part.line = null;
            part.ahead = null;
            part.behind = null;
            t.latest = part;
            if (t.root == null) {
                t.root = part;
            }
            return part;
        }

        /** The WAITS of a wait that is over may be used again. */
        void takeBack(Task t) {
            Part part = t.latest;
            while (part != null) {
                Part further = part.before;
                part.before = unused;
                unused = part;
                part = further;
            }
            t.latest = null;
            t.root = null;
            t.about = null;
        }

        void setAlarm(Part part, int ticks) {
            part.due = ticks > GREATEST - clock ? GREATEST : clock + ticks;
            alarms.add(part);
        }

        /** The first letter of a box, which must have one. */
        int takeLetter(int box) {
            int from = box * MOST_LETTERS;
            int first = letters[from];
            letterCount[box]--;
            for (int i = 0; i < letterCount[box]; i++) {
                letters[from + i] = letters[from + i + 1];
            }
            return first;
        }

        int deliver(int box, int letter) {
            if (box < 0 || box >= BOXES || letterCount[box] >= MOST_LETTERS) {
                return -2;
            }
            Part taker = lines[box].first;
            if (taker == null) {
                letters[box * MOST_LETTERS + letterCount[box]] = letter;
                letterCount[box]++;
                return NONE;
            }
            report(taker, Part.COME, letter);
            work();
            return taker.owner.number;
        }

        void pass(int ticks) {
            int until = clock + ticks;
            for (int i = 0; i < MOST_LOOPS; i++) {
                Part due = alarms.first;
                if (due == null || due.due > until) {
                    break;
                }
                clock = due.due;
                if (due.kind == Part.WITHIN) {
                    report(due, Part.FAILED, TOO_LATE);
                } else {
                    report(due, Part.COME, 0);
                }
                work();
            }
            clock = until;
        }

        boolean callOff(int number) {
            if (!has(number) || tasks[number].state == Task.ENDED || tasks[number].cancelled) {
                return false;
            }
            Task t = tasks[number];
            plan(number);
            work();
            if (t.state == Task.ENDED) {
                tellParent(t);
                work();
            }
            return true;
        }

        /** A task stands in a wait that has begun: it may have come, or some of it, already. */
        void stand(Task t) {
            t.state = Task.IN_WAIT;
            plan(~t.number);
            letGo(t, false);
            if (t.root != null && t.root.status != Part.PENDING) {
                t.outcome = t.root.status;
                t.value = t.root.value;
            }
            work();
        }

        /** A failure in an E has ended the wait that a task was beginning. */
        void breakOff(Task t, int kind) {
            t.state = Task.IN_WAIT;
            plan(~t.number);
            letGo(t, true);
            t.outcome = Part.FAILED;
            t.value = kind;
            work();
        }

        /** A task that has ended in its TURN, perhaps in the midst of beginning a wait. */
        void end(Task t) {
            letGo(t, true);
            work();
            close(t);
            tellParent(t);
            work();
        }

        private void tellParent(Task t) {
            Part part = t.asPart;
            if (part == null || part.status != Part.PENDING) {
                return;
            }
            if (t.how == 0) {
                report(part, Part.COME, t.result);
            } else {
                report(part, Part.FAILED, t.how);
            }
        }

        /** A WAIT comes or fails, and so may those about it: each lets go as it does so. */
        private void report(Part part, int status, int value) {
            Task t = part.owner;
            plan(~t.number);
            int from = agendaCount;
            part.status = status;
            part.value = value;
            Part over = part;
            for (int i = 0; i <= MOST_WITHIN && over != null; i++) {
                if (over.line != null) {
                    over.line.remove(over);
                }
                drop(t, false);
                if (over.about == null) {
                    t.outcome = over.status;
                    t.value = over.value;
                    break;
                }
                over = over.about.hears(over.status, over.value) ? over.about : null;
            }
            turnRound(from);
        }

        /** What has not come nor failed is let go: all of a wait, or what is in those that have. */
        private void letGo(Task t, boolean all) {
            int from = agendaCount;
            drop(t, all);
            turnRound(from);
        }

        private void drop(Task t, boolean all) {
            for (Part p = t.latest; p != null; p = p.before) {
                if (p.status == Part.PENDING && (all || p.isAdrift())) {
                    p.status = Part.LET_GO;
                    if (p.line != null) {
                        p.line.remove(p);
                    }
                    if (p.child != null) {
                        plan(p.child.number);
                    }
                }
            }
        }

        private void plan(int entry) {
            if (agendaCount < MOST_AGENDA) {
                agenda[agendaCount] = entry;
                agendaCount++;
            }
        }

        // What was planned first is to be done first, but ahead of all that was planned before.
        private void turnRound(int from) {
            int low = from;
            for (int high = agendaCount - 1; low < high; high--) {
                int entry = agenda[low];
                agenda[low] = agenda[high];
                agenda[high] = entry;
                low++;
            }
        }

        private void work() {
            for (int i = 0; i < MOST_LOOPS && agendaCount > 0; i++) {
                agendaCount--;
                int entry = agenda[agendaCount];
                if (entry < 0) {
                    settle(tasks[~entry]);
                } else {
                    stop(tasks[entry]);
                }
            }
        }

        /** A task whose wait is over goes on when its children have ended. */
        private void settle(Task t) {
            if (t.state == Task.IN_WAIT && t.outcome != Part.PENDING) {
                if (t.children == 0) {
                    enterRow(t);
                } else {
                    t.state = Task.FOR_CHILDREN;
                }
            }
        }

        private void stop(Task t) {
            if (t.state == Task.ENDED || t.cancelled) {
                return;
            }
            t.cancelled = true;
            if (t.turns == 0) {
                t.how = CANCELLED;
                close(t);
                return;
            }
            if (t.outcome == Part.COME) {
                lost.note(t.number, t.value);
            }
            t.outcome = Part.STOPPED;
            if (t.state == Task.IN_WAIT) {
                plan(~t.number);
                letGo(t, true);
            }
        }

        private void close(Task t) {
            if (t.state == Task.IN_ROW) {
                int k = 0;
                while (k < rowCount && row[k] != t.number) {
                    k++;
                }
                leaveRow(k);
            }
            t.state = Task.ENDED;
            endedCount++;
            Task parent = t.parent;
            if (parent != null) {
                parent.children--;
                if (parent.state == Task.FOR_CHILDREN && parent.children == 0) {
                    enterRow(parent);
                }
            }
        }
    }

    /** Does the acts of tasks. */
    private static final class Runner {
        private static final int GOING = 0;
        private static final int STOOD = 1;
        private static final int BROKEN_OFF = 2;
        private static final int OVER = 3;

        private static final int BY_END = 0;
        private static final int BY_BREAK = 1;
        private static final int BY_CONTINUE = 2;
        private static final int BY_RETURN = 3;
        private static final int BY_FAILURE = 4;
        private static final int BY_CANCEL = 5;

        // A PART within 10 others leaves three numbers open for each, a child 12 more.
        private static final int MOST_NUMBERS = 64;

        int allSteps;
        int turnSteps;
        final Book puts = new Book();
        private final Hall hall;
        private final int[] numbers = new int[MOST_NUMBERS];
        private int numberCount;
        private int course;
        private int failure;

        Runner(Hall itsHall) {
            hall = itsHall;
        }

        /** The task that had its TURN; NONE: there is none such in the ROW. */
        int takeTurn(int k) {
            Task t = hall.leaveRow(k);
            if (t == null) {
                return NONE;
            }
            turnSteps = 0;
            numberCount = 0;
            course = GOING;
            wake(t);
            for (int i = 0; i < MOST_LOOPS && course == GOING; i++) {
                act(t);
            }
            if (course == STOOD) {
                hall.stand(t);
            } else if (course == BROKEN_OFF) {
                hall.breakOff(t, failure);
            } else {
                hall.end(t);
            }
            return t.number;
        }

        private void wake(Task t) {
            int outcome = t.outcome;
            hall.takeBack(t);
            t.outcome = Part.PENDING;
            t.state = Task.RUNNING;
            t.turns++;
            if (t.turns == 1) {
                return;
            }
            int scope = hall.program.scopeAt(t.pc);
            if (outcome == Part.COME) {
                push(t.value);
                t.pc++;
            } else if (outcome == Part.FAILED) {
                leave(t, BY_FAILURE, t.value, scope);
            } else {
                leave(t, BY_CANCEL, 0, scope);
            }
        }

        private void act(Task t) {
            Program program = hall.program;
            int at = t.pc;
            if (at < 0 || at >= program.size) {
                end(t, 0, 0);
                return;
            }
            int op = program.op[at];
            if (Program.isStep(op) && !step()) {
                end(t, WORN_OUT, 0);
                return;
            }
            t.pc = at + 1;
            if (op <= Program.LAST_OF_SUMS) {
                reckon(t, op, at);
            } else if (op <= Program.LAST_OF_FLOW) {
                flow(t, op, at);
            } else {
                attend(t, op, at);
            }
        }

        private boolean step() {
            if (turnSteps >= MOST_TURN_STEPS || allSteps >= MOST_STEPS) {
                return false;
            }
            turnSteps++;
            allSteps++;
            return true;
        }

        private void push(int number) {
            if (numberCount < MOST_NUMBERS) {
                numbers[numberCount] = number;
                numberCount++;
            }
        }

        private int pop() {
            if (numberCount == 0) {
                return 0;
            }
            numberCount--;
            return numbers[numberCount];
        }

        private void reckon(Task t, int op, int at) {
            int arg = hall.program.arg[at];
            switch (op) {
                case Program.STATEMENT:
                    numberCount = 0;
                    break;
                case Program.PART:
                    break;
                case Program.NUMBER:
                    push(arg);
                    break;
                case Program.CELL:
                    push(t.look(arg));
                    break;
                case Program.CLOCK:
                    push(hall.clock);
                    break;
                case Program.NEGATE:
                    push(-pop());
                    break;
                default:
                    join(t, op, at);
            }
        }

        private void join(Task t, int op, int at) {
            int right = pop();
            int left = pop();
            switch (op) {
                case Program.ADD:
                    push(left + right);
                    break;
                case Program.SUBTRACT:
                    push(left - right);
                    break;
                case Program.MULTIPLY:
                    push(left * right);
                    break;
                case Program.LESS:
                    push(left < right ? 1 : 0);
                    break;
                case Program.SAME:
                    push(left == right ? 1 : 0);
                    break;
                default:
                    if (right == 0) {
                        fail(t, BY_ZERO, at);
                    } else {
                        push(op == Program.DIVIDE ? left / right : left % right);
                    }
            }
        }

        private void flow(Task t, int op, int at) {
            Program program = hall.program;
            Scopes scopes = program.scopes;
            int arg = program.arg[at];
            switch (op) {
                case Program.STORE:
                    t.set(arg, pop());
                    break;
                case Program.NOTE:
                    puts.note(t.number, pop());
                    break;
                case Program.UNLESS:
                    t.pc = pop() == 0 ? arg : at + 1;
                    break;
                case Program.JUMP:
                    t.pc = arg;
                    break;
                case Program.BREAK:
                    leave(t, BY_BREAK, arg, program.scope[at]);
                    break;
                case Program.CONTINUE:
                    leave(t, BY_CONTINUE, arg, program.scope[at]);
                    break;
                case Program.RETURN:
                    leave(t, BY_RETURN, pop(), program.scope[at]);
                    break;
                case Program.FAIL:
                    fail(t, arg, at);
                    break;
                case Program.BLOCK_END:
                    if (scopes.is(arg, Scopes.FINISH)) {
                        t.leftBy[scopes.deep[arg]] = BY_END;
                        t.pc = scopes.finishAt[arg];
                    } else {
                        t.pc = scopes.behindTry[arg];
                    }
                    break;
                case Program.CATCH:
                    t.set(arg, failure);
                    break;
                case Program.FINISH_END:
                    finishEnd(t, arg);
                    break;
                default:
                    end(t, 0, 0);
            }
        }

        private void finishEnd(Task t, int tried) {
            Scopes scopes = hall.program.scopes;
            int deep = scopes.deep[tried];
            if (t.leftBy[deep] == BY_END) {
                t.pc = scopes.behindTry[tried];
            } else {
                leave(t, t.leftBy[deep], t.leftWith[deep], scopes.outer[tried]);
            }
        }

        private void fail(Task t, int kind, int at) {
            if (t.state == Task.BEGINNING) {
                // The task goes on with it in its next TURN, from where it stands now.
                t.pc = at;
                failure = kind;
                course = BROKEN_OFF;
            } else {
                leave(t, BY_FAILURE, kind, hall.program.scope[at]);
            }
        }

        /** What leaves a place goes outward, up to an on or a finish, or to where it leads. */
        private void leave(Task t, int by, int with, int from) {
            Scopes scopes = hall.program.scopes;
            boolean forLoop = by == BY_BREAK || by == BY_CONTINUE;
            int stop = forLoop ? scopes.loopScope[with] : NONE;
            int as = by;
            int scope = from;
            for (int i = 0; i < MOST_MARKED && scope >= 0 && scope != stop; i++) {
                int tried = scope / Scopes.BLOCKS;
                int block = scope % Scopes.BLOCKS;
                int deep = scopes.deep[tried];
                if (block == Scopes.IN_FINISH) {
                    // A CANCEL that was on its way outlives a failure of the finish it went through.
                    as = as == BY_FAILURE && t.leftBy[deep] == BY_CANCEL ? BY_CANCEL : as;
                } else if (as == BY_FAILURE && block == Scopes.IN_FIRST && scopes.is(tried, Scopes.ON)) {
                    failure = with;
                    t.pc = scopes.onAt[tried];
                    return;
                } else if (scopes.is(tried, Scopes.FINISH)) {
                    t.leftBy[deep] = as;
                    t.leftWith[deep] = with;
                    t.pc = scopes.finishAt[tried];
                    return;
                }
                scope = scopes.outer[tried];
            }
            if (forLoop) {
                t.pc = as == BY_BREAK ? scopes.behindLoop[with] : scopes.loopAt[with];
            } else if (as == BY_RETURN) {
                end(t, 0, with);
            } else {
                end(t, as == BY_CANCEL ? CANCELLED : with, 0);
            }
        }

        private void end(Task t, int how, int result) {
            t.how = how;
            t.result = result;
            course = OVER;
        }

        private void attend(Task t, int op, int at) {
            int arg = hall.program.arg[at];
            switch (op) {
                case Program.WAIT:
                    t.at = arg;
                    t.state = Task.BEGINNING;
                    break;
                case Program.START:
                    break;
                case Program.LETTER:
                    beginLetter(t, arg);
                    break;
                case Program.YIELD:
                    come(hall.newPart(t, Part.YIELD), 0);
                    break;
                case Program.TICK:
                    beginTick(t, pop());
                    break;
                case Program.CHILD:
                    beginChild(t, arg, at);
                    break;
                case Program.BOTH:
                    t.about = hall.newPart(t, Part.BOTH);
                    t.about.left = arg;
                    break;
                case Program.FIRST:
                    t.about = hall.newPart(t, Part.FIRST);
                    break;
                case Program.WITHIN:
                    t.about = hall.newPart(t, Part.WITHIN);
                    t.about.left = pop();
                    break;
                case Program.CLOSE:
                    closePart(t);
                    break;
                default:
                    t.pc = at;
                    course = STOOD;
            }
        }

        private void beginLetter(Task t, int box) {
            Part part = hall.newPart(t, Part.LETTER);
            if (hall.letterCount[box] > 0) {
                come(part, hall.takeLetter(box));
            } else {
                hall.lines[box].add(part);
            }
        }

        private void beginTick(Task t, int ticks) {
            Part part = hall.newPart(t, Part.TICK);
            if (ticks <= 0) {
                come(part, 0);
            } else {
                hall.setAlarm(part, ticks);
            }
        }

        private void beginChild(Task t, int routine, int at) {
            Task child = hall.newTask(routine, t);
            if (child == null) {
                fail(t, TOO_MANY, at);
                return;
            }
            for (int i = hall.program.given[routine] - 1; i >= 0; i--) {
                child.set(i, pop());
            }
            Part part = hall.newPart(t, Part.CHILD);
            part.child = child;
            child.asPart = part;
            t.children++;
        }

        // As a WAIT begins, those about it only hear of it: they let go when all has begun.
        private void come(Part part, int value) {
            part.status = Part.COME;
            part.value = value;
            tellAbout(part);
        }

        private void tellAbout(Part part) {
            Part about = part.about;
            if (about != null && about.status == Part.PENDING) {
                about.hears(part.status, part.value);
            }
        }

        /** All in a both, first, within have begun; the tick of a within begins behind them. */
        private void closePart(Task t) {
            Part part = t.about;
            if (part == null) {
                return;
            }
            t.about = part.about;
            if (part.kind == Part.WITHIN && part.status == Part.PENDING) {
                if (part.left > 0) {
                    hall.setAlarm(part, part.left);
                } else {
                    part.status = Part.FAILED;
                    part.value = TOO_LATE;
                }
            }
            if (part.status != Part.PENDING) {
                tellAbout(part);
            }
        }
    }
}
