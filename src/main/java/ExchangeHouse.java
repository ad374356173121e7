import java.util.Arrays;

/** Processes that live by signals; DOC.md says, promise by promise, what each call does. */
public final class ExchangeHouse {
    /** There is none. */
    public static final int NONE = -1;

    private static final int TAPE = 5000;
    private static final int FEED = 20;
    private static final int BAD_LENGTH = -2;
    private static final int CHART_FAULT = -10;
    private static final int MOST_STEPS = 1000;
    private static final int LONGEST_WAIT = 1000000;

    // Each part is made, with all its rows, when it is first needed, so that an object of which little is asked is small.
    private byte[] tape = new byte[0];
    private int fed;
    private Tokens tokens;
    private Parser parser;
    private Judge judge;
    private Runner runner;
    private Seeker seeker;
    private Sheet sheet;
    // A text is read into the spare plan, so that one with a fault leaves the system as it is.
    private Plan plan;
    private Plan spare;
    private boolean running;
    private int faultPlace = NONE;

    public ExchangeHouse() {
    }

    public boolean feed(int a, int b, int c, int d, int e) {
        if (fed + FEED > TAPE) {
            return false;
        }
        if (tape.length == 0) {
            tape = new byte[TAPE];
        }
        write(a);
        write(b);
        write(c);
        write(d);
        write(e);
        return true;
    }

    private void write(int number) {
        for (int shift = 24; shift >= 0; shift -= 8) {
            tape[fed] = (byte) (number >>> shift);
            fed++;
        }
    }

    public int load(int n) {
        if (n < 0 || n > fed) {
            return BAD_LENGTH;
        }
        fed = 0;
        if (tokens == null) {
            tokens = new Tokens();
            parser = new Parser(tokens);
            judge = new Judge(tokens);
        }
        if (spare == null) {
            spare = new Plan();
        }
        tokens.read(tape, n);
        parser.parse(spare);
        if (tokens.early == 0) {
            judge.check(spare);
        }
        int fault = tokens.fault();
        if (fault != 0) {
            faultPlace = tokens.faultPlace();
            return fault;
        }
        judge.warn(spare);
        Plan old = plan;
        plan = spare;
        spare = old;
        running = false;
        return 0;
    }

    public int place() {
        return faultPlace;
    }

    public int warning(int i, int what) {
        if (plan == null || i < 0 || i >= plan.warningCount || what < 0 || what > 1) {
            return NONE;
        }
        return plan.warnings[2 * i + what];
    }

    public int begin(int seed) {
        if (plan == null) {
            return NONE;
        }
        if (runner == null) {
            runner = new Runner(new Log(false));
            seeker = new Seeker(new Runner(new Log(true)));
        }
        running = true;
        seeker.forget();
        return runner.start(plan, seed);
    }

    public int run(int n) {
        return running && n >= 1 && n <= MOST_STEPS ? runner.advance(n) : NONE;
    }

    public int go(int pid) {
        return running ? runner.byHand(pid) : NONE;
    }

    public int none(int pid, int k) {
        return running ? runner.byItself(pid, k) : NONE;
    }

    public int wait(int n) {
        if (!running || n < 0 || n > LONGEST_WAIT) {
            return NONE;
        }
        runner.net.now = Runner.later(runner.net.now, n);
        return runner.net.now;
    }

    public int put(int signal, int pid, int a, int b, int c) {
        if (!running) {
            return NONE;
        }
        return runner.fromEnv(signal, pid, a, b, c) ? 1 : 0;
    }

    public int alive(int i) {
        return running && i >= 0 && i < runner.net.alive ? runner.net.pid[i] : NONE;
    }

    /** Where an alive instance stands in the net. */
    private int slot(int pid) {
        return running ? runner.net.find(pid) : NONE;
    }

    public int instance(int pid, int what) {
        int i = slot(pid);
        if (i == NONE) {
            return NONE;
        }
        Net net = runner.net;
        switch (what) {
            case 0:
                return net.kind[i];
            case 1:
                return net.at[i];
            case 2:
                return net.queued[i];
            case 3:
                return net.sender[i];
            case 4:
                return net.parent[i];
            case 5:
                return net.offspring[i];
            case 6:
                return runner.choose(i);
            default:
                return NONE;
        }
    }

    public int cell(int pid, int k) {
        int i = slot(pid);
        if (i == NONE || k < 0 || k >= plan.kinds[runner.net.kind[i]].cells) {
            return 0;
        }
        return runner.net.cells[Net.CELLS * i + k];
    }

    public int timer(int pid, int t) {
        int i = slot(pid);
        if (i == NONE || t < 0 || t >= Net.TIMERS) {
            return NONE;
        }
        return runner.net.timers[Net.TIMERS * i + t];
    }

    public int queued(int pid, int i, int what) {
        int slot = slot(pid);
        if (slot == NONE || i < 0 || i >= runner.net.queued[slot] || what < 0 || what > 4) {
            return NONE;
        }
        int from = slot * Net.QUEUED + i * Net.MESSAGE;
        return runner.net.queue[from + (what < 2 ? what : Net.VALUES + what - 2)];
    }

    public int way(int r, int i, int what) {
        if (!running || r < 0 || r >= plan.routes.size || what < 0 || what > 6) {
            return NONE;
        }
        if (i < 0 || i >= runner.net.rowSize[r]) {
            return NONE;
        }
        int from = Net.rowAt(r, i);
        if (what == 3) {
            return runner.net.rows[from + Net.TIME];
        }
        return runner.net.rows[from + (what < 3 ? what : Net.VALUES + what - 4)];
    }

    public int out(int i, int what) {
        return running ? runner.log.outAt(i, what) : NONE;
    }

    public int event(int i, int what) {
        return running ? runner.log.eventAt(i, what) : NONE;
    }

    public int count(int what) {
        if (what < 0 || what > 18) {
            return NONE;
        }
        if (what == 14) {
            return fed;
        }
        if (what < 4) {
            return plan == null ? 0 : systemCount(what);
        }
        if (!running) {
            return 0;
        }
        return what < 16 ? runCount(what) : seeker.tally(what);
    }

    private int systemCount(int what) {
        switch (what) {
            case 0:
                return plan.signals.size;
            case 1:
                return plan.routes.size;
            case 2:
                return plan.types.size;
            default:
                return plan.warningCount;
        }
    }

    private int runCount(int what) {
        Log log = runner.log;
        switch (what) {
            case 4:
                return runner.net.now;
            case 5:
                return runner.net.alive;
            case 6:
                return log.made;
            case 7:
                return log.lost;
            case 8:
                return log.errors;
            case 9:
                return log.error;
            case 10:
                return log.errorPlace;
            case 11:
                return log.steps;
            case 12:
                return log.outCount;
            case 13:
                return log.eventSize;
            default:
                return runner.net.seed;
        }
    }

    public int type(int t, int what) {
        if (plan == null || t < 0 || t >= plan.types.size) {
            return NONE;
        }
        Kind kind = plan.kinds[t];
        switch (what) {
            case 0:
                return kind.states.size;
            case 1:
                return kind.cells;
            case 2:
                return kind.timers.size;
            case 3:
                return kind.least;
            case 4:
                return kind.most;
            default:
                return NONE;
        }
    }

    public int search(int n) {
        return running && n >= 1 && n <= Seeker.MOST ? seeker.find(plan, runner.net, n) : NONE;
    }

    public int state(int k, int what) {
        return running ? seeker.tell(k, what) : NONE;
    }

    public int first(int what, int a, int b) {
        return running ? seeker.earliest(what, a, b) : NONE;
    }

    public int visit(int k) {
        if (!running) {
            return NONE;
        }
        return seeker.restore(k, runner.net) ? 1 : 0;
    }

    public int chart(int n) {
        if (n < 0 || n > fed) {
            return BAD_LENGTH;
        }
        fed = 0;
        if (!running) {
            return NONE;
        }
        if (sheet == null) {
            sheet = new Sheet(tokens);
        }
        tokens.read(tape, n);
        sheet.parse(plan.signals);
        int fault = tokens.fault();
        if (fault != 0) {
            faultPlace = tokens.faultPlace();
            return CHART_FAULT - fault;
        }
        return sheet.compare(runner.log) ? 1 : 0;
    }

    public int choices(int what) {
        switch (what) {
            case 0:
                return sheet == null ? 0 : sheet.answeredLines;
            case 1:
                return sheet == null ? 0 : sheet.answeredChoices;
            default:
                return NONE;
        }
    }

    /** The tokens of a text or chart, a reader's place among them, and the faults found. */
    private static final class Tokens {
        static final int MOST = 1200;
        static final int DEPTH = 12;

        static final int SYNTAX = 1;
        static final int ROOM = 2;
        static final int TWICE = 3;
        static final int UNKNOWN = 4;
        static final int SORT = 5;
        static final int FORM = 6;

        static final int END = 0;
        static final int BAD = 1;
        // Kinds are the ops of a plan's code, too: NAME to ACTIVE are operands ...
        static final int NAME = 2;
        static final int NUMBER = 3;
        static final int TRUE = 4;
        static final int FALSE = 5;
        static final int NULL = 6;
        static final int SELF = 7;
        static final int SENDER = 8;
        static final int PARENT = 9;
        static final int OFFSPRING = 10;
        static final int NOW = 11;
        static final int WAITING = 12;
        static final int ACTIVE = 13;
        // ... and NOT to NEGATIVE (which is no token) are operators.
        static final int NOT = 14;
        static final int OR = 15;
        static final int AND = 16;
        static final int EQUAL = 17;
        static final int UNLIKE = 18;
        static final int LESS = 19;
        static final int AT_MOST = 20;
        static final int MORE = 21;
        static final int AT_LEAST = 22;
        static final int PLUS = 23;
        static final int MINUS = 24;
        static final int TIMES = 25;
        static final int OVER = 26;
        static final int REST = 27;
        static final int OPEN = 28;
        static final int INDEX = 29;
        static final int NEGATIVE = 30;
        static final int CLOSE = 31;
        static final int INDEXED = 32;
        static final int COMMA = 33;
        static final int SEMICOLON = 34;
        static final int COLON = 35;
        static final int BECOMES = 36;
        static final int ARROW = 37;
        static final int DOTS = 38;
        static final int SIGNAL = 40;
        static final int ROUTE = 41;
        static final int PROCESS = 42;
        static final int VAR = 43;
        static final int TIMER = 44;
        static final int START = 45;
        static final int STATE = 46;
        static final int INPUT = 47;
        static final int SAVE = 48;
        static final int WHEN = 49;
        static final int SPONTANEOUS = 50;
        static final int NEXT = 51;
        static final int STOP = 52;
        static final int JOIN = 53;
        static final int OUTPUT = 54;
        static final int SET = 55;
        static final int RESET = 56;
        static final int CREATE = 57;
        static final int DECIDE = 58;
        static final int ELSE = 59;
        static final int FINISH = 60;
        static final int TO = 61;
        static final int VIA = 62;
        static final int WITH = 63;
        static final int DELAY = 64;
        static final int ENV = 65;
        static final int IF = 66;
        static final int PRIO = 67;
        static final int INT = 68;
        static final int BOOL = 69;
        static final int PID = 70;
        static final int CHART = 71;
        static final int INST = 72;
        static final int ALT = 73;
        static final int OPT = 74;

        private static final String OPERAND_WORDS = "true false null self sender parent offspring now waiting active not or and ";
        private static final String TOLD_WORDS = "signal route process var timer start state input save when none ";
        private static final String ACT_WORDS = "next stop join output set reset create decide else end to via ";
        private static final String OTHER_WORDS = "with delay env if prio int bool pid chart inst alt opt ";
        private static final int OPERAND_WORD_COUNT = 13;
        private static final int ALL_WORDS = 48;
        private static final int LONGEST_NAME = 10;
        private static final int LONGEST_NUMBER = 9;
        private static final int SYMBOLS = 38;

        final int[] kind = new int[MOST + 2];
        final int[] place = new int[MOST + 2];
        /** A number, or a name's letters as digits of one number, so that names are compared at once. */
        final long[] value = new long[MOST + 2];
        int at;
        int open;
        int early;
        private int earlyPlace;
        private int late;
        private int latePlace;
        private final long[] keywords = new long[ALL_WORDS];
        private byte[] text = new byte[0];
        private int length;

        Tokens() {
            learn(OTHER_WORDS, learn(ACT_WORDS, learn(TOLD_WORDS, learn(OPERAND_WORDS, 0))));
        }

        /** Adds words to the keywords, of which there are some: how many there are then. */
        private int learn(String words, int from) {
            int count = from;
            long code = 0;
            for (int i = 0; i < words.length(); i++) {
                char c = words.charAt(i);
                if (c != ' ') {
                    code = code * SYMBOLS + symbol(c);
                } else if (count < ALL_WORDS) {
                    keywords[count] = code;
                    count++;
                    code = 0;
                }
            }
            return count;
        }

        /** What a byte counts in a name; 0 if none has it. */
        private static int symbol(int c) {
            if (c >= 'a' && c <= 'z') {
                return c - 'a' + 1;
            }
            if (c >= '0' && c <= '9') {
                return c - '0' + 27;
            }
            return c == '_' ? 37 : 0;
        }

        void read(byte[] bytes, int n) {
            text = bytes;
            length = n;
            at = 0;
            open = 0;
            early = 0;
            late = 0;
            int count = 0;
            int from = gap(0);
            boolean good = true;
            // One token more than there is room for is read, as its place is the fault's.
            for (int i = 0; i <= MOST && good && from < n; i++) {
                place[i] = from;
                from = gap(token(i, from));
                good = kind[i] != BAD;
                count = i + 1;
            }
            if (good) {
                kind[count] = END;
                place[count] = n;
            }
        }

        private int byteAt(int i) {
            return i < length ? text[i] & 255 : 0;
        }

        /** Where the next token begins, behind what stands between tokens. */
        private int gap(int from) {
            boolean note = false;
            int i = from;
            for (; i < length; i++) {
                int c = text[i];
                if (note) {
                    note = c != 10;
                } else if (c == '#') {
                    note = true;
                } else if (c != 9 && c != 10 && c != 13 && c != 32) {
                    return i;
                }
            }
            return i;
        }

        private int token(int i, int from) {
            int symbol = symbol(byteAt(from));
            if (symbol == 0 || symbol == 37) {
                return sign(i, from);
            }
            return symbol < 27 ? word(i, from) : digits(i, from);
        }

        private int word(int i, int from) {
            long code = 0;
            int end = from;
            for (; end < length && symbol(byteAt(end)) != 0; end++) {
                if (end - from < LONGEST_NAME) {
                    code = code * SYMBOLS + symbol(byteAt(end));
                }
            }
            value[i] = code;
            kind[i] = end - from > LONGEST_NAME ? BAD : wordKind(code);
            return end;
        }

        private int wordKind(long code) {
            for (int k = 0; k < ALL_WORDS; k++) {
                if (keywords[k] == code) {
                    return k < OPERAND_WORD_COUNT ? TRUE + k : SIGNAL + k - OPERAND_WORD_COUNT;
                }
            }
            return NAME;
        }

        private int digits(int i, int from) {
            long number = 0;
            int end = from;
            for (; end < length && byteAt(end) >= '0' && byteAt(end) <= '9'; end++) {
                if (end - from < LONGEST_NUMBER) {
                    number = number * 10 + byteAt(end) - '0';
                }
            }
            value[i] = number;
            kind[i] = end - from > LONGEST_NUMBER || symbol(byteAt(end)) != 0 ? BAD : NUMBER;
            return end;
        }

        private int sign(int i, int from) {
            int c = byteAt(from);
            int pair = pairKind(c, byteAt(from + 1));
            value[i] = 0;
            kind[i] = pair != BAD ? pair : signKind(c);
            return from + (pair != BAD ? 2 : 1);
        }

        private static int pairKind(int c, int next) {
            if (next == '=') {
                switch (c) {
                    case ':':
                        return BECOMES;
                    case '/':
                        return UNLIKE;
                    case '<':
                        return AT_MOST;
                    case '>':
                        return AT_LEAST;
                    default:
                        return BAD;
                }
            }
            if (c == '-' && next == '>') {
                return ARROW;
            }
            return c == '.' && next == '.' ? DOTS : BAD;
        }

        private static int signKind(int c) {
            switch (c) {
                case '(':
                    return OPEN;
                case ')':
                    return CLOSE;
                case '[':
                    return INDEX;
                case ']':
                    return INDEXED;
                case ',':
                    return COMMA;
                case ';':
                    return SEMICOLON;
                case ':':
                    return COLON;
                case '*':
                    return TIMES;
                case '+':
                    return PLUS;
                case '/':
                    return OVER;
                case '%':
                    return REST;
                case '=':
                    return EQUAL;
                case '<':
                    return LESS;
                case '>':
                    return MORE;
                case '-':
                    return MINUS;
                default:
                    return BAD;
            }
        }

        /** The kind of the token at hand; behind a fault it is one that fits nowhere, so that reading ends. */
        int seen() {
            return early != 0 ? BAD : kind[at];
        }

        boolean take(int k) {
            if (early != 0 || kind[at] != k) {
                return false;
            }
            if (at == MOST) {
                early = ROOM;
                earlyPlace = place[at];
            } else {
                at++;
            }
            return true;
        }

        /** Takes a token that opens something that its reader will close. */
        boolean enter(int k) {
            if (early != 0 || kind[at] != k) {
                return false;
            }
            if (at == MOST || open == DEPTH) {
                early = ROOM;
                earlyPlace = place[at];
                return false;
            }
            open++;
            at++;
            return true;
        }

        void need(int k) {
            if (!take(k)) {
                fail(SYNTAX, at);
            }
        }

        void fail(int number, int token) {
            if (early == 0) {
                early = number;
                earlyPlace = place[token];
            }
        }

        /** Notes a fault that counts only where there is no SYNTAX or ROOM. */
        void blame(int number, int where) {
            if (late == 0 || where < latePlace || where == latePlace && number < late) {
                late = number;
                latePlace = where;
            }
        }

        int fault() {
            return early != 0 ? early : late;
        }

        int faultPlace() {
            return early != 0 ? earlyPlace : latePlace;
        }
    }

    /** Names in the order of the text. */
    private static final class Names {
        final long[] name;
        final int[] place;
        int size;

        Names(int most) {
            name = new long[most];
            place = new int[most];
        }

        boolean isFull() {
            return size >= name.length;
        }

        void add(long code, int where) {
            if (size < name.length) {
                name[size] = code;
                place[size] = where;
                size++;
            }
        }

        int find(long code) {
            for (int i = 0; i < size; i++) {
                if (name[i] == code) {
                    return i;
                }
            }
            return NONE;
        }

        boolean toldAhead(long code, int where) {
            int i = find(code);
            return i != NONE && place[i] < where;
        }
    }

    /** A type of processes. */
    private static final class Kind {
        static final int VARIABLES = 8;
        static final int STATES = 12;
        static final int LABELS = 10;

        final Names variables = new Names(VARIABLES);
        final Names timers = new Names(Net.TIMERS);
        final Names states = new Names(STATES);
        final Names labels = new Names(LABELS);
        final int[] sort = new int[VARIABLES];
        /** How long an array is; 0 of what is none. */
        final int[] length = new int[VARIABLES];
        final int[] cell = new int[VARIABLES];
        final int[] labelAt = new int[LABELS];
        int pars;
        int cells;
        int least;
        int most;
        int entry;
        int rowFrom;
        int rowTo;
        int codeFrom;
        int codeTo;

        void clear() {
            variables.size = 0;
            timers.size = 0;
            states.size = 0;
            labels.size = 0;
            pars = 0;
            cells = 0;
            least = 0;
            most = 0;
            entry = 0;
        }

        void shape(int variable, int itsSort, int itsLength) {
            if (variable >= 0 && variable < VARIABLES) {
                sort[variable] = itsSort;
                length[variable] = itsLength;
                cell[variable] = cells;
                cells += Math.max(1, itsLength);
            }
        }
    }

    /** What a text tells: tables, and code in which all that can be at fault stands in the text's order. */
    private static final class Plan {
        static final int SIGNALS = 20;
        static final int ROUTES = 10;
        static final int TYPES = 6;
        static final int VALUES = 3;
        static final int ENV = -1;
        static final int ANY = -3;
        static final int TIMER_SIGNAL = 100;

        // Ops beside those that are kinds of tokens.
        static final int ACT = 80;
        static final int BOUND = 81;
        static final int STORE = 82;
        static final int RANGE = 83;
        static final int SKIP = 84;
        static final int JUMP = 85;
        static final int DECIDED = 86;
        static final int TRANS = 87;
        static final int CONDITION = 88;
        static final int OWNER = 89;
        static final int SIDE = 90;
        static final int CARRIED = 91;
        static final int INTO = 92;

        // A row of stimuli: what it is, its states, where its condition and its trans begin, prio, cells.
        static final int ROW = 8;
        static final int MASK = 1;
        static final int COND = 2;
        static final int BODY = 3;
        static final int PRIO = 4;
        static final int CELL = 5;

        static final int STAR = SIGNALS + Net.TIMERS;
        /** Of all that a text may have a decide with eight branches makes most: 28 ops of 21 tokens. */
        static final int CODE = 1700;
        /** Each row takes two tokens at least. */
        static final int ROWS = 620;
        static final int WARNINGS = 200;

        final Names signals = new Names(SIGNALS);
        final Names routes = new Names(ROUTES);
        final Names types = new Names(TYPES);
        final Kind[] kinds = new Kind[TYPES];
        /** Of each signal how many sorts it has, then these. */
        final int[] sorts = new int[SIGNALS * (VALUES + 1)];
        final int[] from = new int[ROUTES];
        final int[] to = new int[ROUTES];
        final int[] carries = new int[ROUTES];
        /** The delay's numbers; NONE for one that is not told. */
        final int[] low = new int[ROUTES];
        final int[] high = new int[ROUTES];
        final int[] op = new int[CODE];
        final int[] arg = new int[CODE];
        final int[] aux = new int[CODE];
        final int[] tok = new int[CODE];
        int size;
        final int[] rows = new int[ROWS * ROW];
        int rowCount;
        /** Of each type, state and signal the row that tells it, and 1; 0 without. */
        final int[] table = new int[TYPES * Kind.STATES * (STAR + 1)];
        final int[] warnings = new int[2 * WARNINGS];
        int warningCount;

        Plan() {
            for (int t = 0; t < TYPES; t++) {
                kinds[t] = new Kind();
            }
        }

        void clear() {
            signals.size = 0;
            routes.size = 0;
            types.size = 0;
            size = 0;
            rowCount = 0;
            warningCount = 0;
            Arrays.fill(sorts, 0);
            Arrays.fill(carries, 0);
            Arrays.fill(table, 0);
        }

        /** Where the op stands. */
        int emit(int what, int a, int b, int token) {
            if (size >= CODE) {
                return CODE - 1;
            }
            op[size] = what;
            arg[size] = a;
            aux[size] = b;
            tok[size] = token;
            size++;
            return size - 1;
        }

        int addRow(int what, int mask) {
            if (rowCount >= ROWS) {
                return ROWS - 1;
            }
            int from = ROW * rowCount;
            Arrays.fill(rows, from, from + ROW, NONE);
            rows[from] = what;
            rows[from + MASK] = mask;
            rows[from + PRIO] = 0;
            rowCount++;
            return rowCount - 1;
        }

        int ofRow(int row, int what) {
            return rows[ROW * row + what];
        }

        static int tableAt(int type, int state, int entry) {
            return (type * Kind.STATES + state) * (STAR + 1) + entry;
        }

        static int entryOf(int signal) {
            return signal >= TIMER_SIGNAL ? SIGNALS + signal - TIMER_SIGNAL : signal;
        }

        /** The row that tells a signal at a state, by its name or else by *; NONE without. */
        int teller(int type, int state, int signal) {
            int row = table[tableAt(type, state, entryOf(signal))] - 1;
            return row != NONE ? row : table[tableAt(type, state, STAR)] - 1;
        }

        /** The first route from a side to another, or to ANY, that carries a signal. */
        int findRoute(int a, int b, int signal) {
            for (int r = 0; r < routes.size; r++) {
                if (from[r] == a && (b == ANY || to[r] == b) && (carries[r] >> signal & 1) == 1) {
                    return r;
                }
            }
            return NONE;
        }
    }

    /** Reads a text into a plan, up to the first SYNTAX or ROOM; notes what of FORM it sees. */
    private static final class Parser {
        private static final int TOP = 0;
        private static final int DECLARING = 1;
        private static final int STARTED = 2;
        private static final int STATED = 3;

        private static final int PLAIN = 0;
        private static final int ENDING = 1;
        private static final int LAST = 2;

        private static final int RELATION = 2;
        private static final int UNARY = 5;

        private static final int MOST_RANGES = 8;
        private static final int MOST_COUNT = 200;
        private static final int MOST_PRIO = 9;
        private static final int MOST_LENGTH = 8;

        /** The bit, beside those of states, of what stands at the start. */
        static final int AT_START = 1 << Kind.STATES;
        static final int ALL_STATES = AT_START - 1;

        static final int DIRECTED = 1;
        static final int ROUTED = 2;

        private final Tokens tokens;
        private Plan plan;
        private Kind kind = new Kind();
        private int where;
        private int mask;
        /** How many the decide at hand has up to here. */
        private int ranges;

        Parser(Tokens tokens) {
            this.tokens = tokens;
        }

        void parse(Plan into) {
            plan = into;
            plan.clear();
            where = TOP;
            for (int i = 0; i <= Tokens.MOST && tokens.early == 0 && !isOver(i); i++) {
                int k = tokens.seen();
                if (!fits(k)) {
                    tokens.fail(Tokens.SYNTAX, tokens.at);
                }
                tokens.take(k);
                switch (tokens.early != 0 ? Tokens.BAD : k) {
                    case Tokens.SIGNAL:
                        signals();
                        break;
                    case Tokens.ROUTE:
                        route();
                        break;
                    case Tokens.PROCESS:
                        heading();
                        break;
                    case Tokens.VAR:
                        variable();
                        break;
                    case Tokens.TIMER:
                        told(kind.timers);
                        tokens.need(Tokens.SEMICOLON);
                        break;
                    case Tokens.START:
                        starting();
                        break;
                    case Tokens.STATE:
                        stating();
                        break;
                    case Tokens.INPUT:
                        inputs();
                        break;
                    case Tokens.SAVE:
                        saves();
                        break;
                    case Tokens.WHEN:
                        whens();
                        break;
                    case Tokens.SPONTANEOUS:
                        byItself();
                        break;
                    case Tokens.FINISH:
                        finish();
                        break;
                    default:
                        break;
                }
            }
        }

        private boolean isOver(int clauses) {
            return clauses > 0 && where == TOP && tokens.seen() == Tokens.END;
        }

        private boolean fits(int k) {
            switch (where) {
                case TOP:
                    return k == Tokens.SIGNAL || k == Tokens.ROUTE || k == Tokens.PROCESS;
                case DECLARING:
                    return k == Tokens.VAR || k == Tokens.TIMER || k == Tokens.START;
                case STARTED:
                    return k == Tokens.STATE || k == Tokens.FINISH;
                default:
                    return k == Tokens.FINISH || k >= Tokens.STATE && k <= Tokens.SPONTANEOUS;
            }
        }

        /** Takes a name that is told here, as the next one of its list. */
        private int told(Names list) {
            if (tokens.seen() != Tokens.NAME) {
                tokens.fail(Tokens.SYNTAX, tokens.at);
                return NONE;
            }
            if (list.isFull()) {
                tokens.fail(Tokens.ROOM, tokens.at);
                return NONE;
            }
            list.add(tokens.value[tokens.at], tokens.place[tokens.at]);
            tokens.take(Tokens.NAME);
            return list.size - 1;
        }

        private int number(int most) {
            long value = tokens.value[tokens.at];
            if (tokens.seen() == Tokens.NUMBER && value > most) {
                tokens.fail(Tokens.ROOM, tokens.at);
            }
            tokens.need(Tokens.NUMBER);
            return (int) value;
        }

        private int sort() {
            int k = tokens.seen();
            if (k < Tokens.INT || k > Tokens.PID) {
                tokens.fail(Tokens.SYNTAX, tokens.at);
                return 0;
            }
            tokens.take(k);
            return k - Tokens.INT;
        }

        private void signals() {
            boolean more = true;
            for (int i = 0; i < Tokens.MOST && more; i++) {
                int s = told(plan.signals);
                if (s != NONE && tokens.enter(Tokens.OPEN)) {
                    sorts(s * (Plan.VALUES + 1));
                }
                more = tokens.take(Tokens.COMMA);
            }
            tokens.need(Tokens.SEMICOLON);
        }

        private void sorts(int at) {
            int n = 0;
            boolean more = true;
            for (int i = 0; i < Tokens.MOST && more; i++) {
                int token = tokens.at;
                int itsSort = sort();
                if (n < Plan.VALUES) {
                    n++;
                    plan.sorts[at + n] = itsSort;
                } else {
                    tokens.fail(Tokens.ROOM, token);
                }
                more = tokens.take(Tokens.COMMA);
            }
            plan.sorts[at] = n;
            tokens.open--;
            tokens.need(Tokens.CLOSE);
        }

        private void route() {
            int r = told(plan.routes);
            if (r == NONE) {
                return;
            }
            side(2 * r);
            tokens.need(Tokens.ARROW);
            side(2 * r + 1);
            plan.low[r] = NONE;
            plan.high[r] = NONE;
            if (tokens.take(Tokens.DELAY)) {
                plan.low[r] = number(MOST_COUNT);
                if (tokens.take(Tokens.DOTS)) {
                    plan.high[r] = secondNumber(plan.low[r]);
                }
            }
            tokens.need(Tokens.WITH);
            boolean more = true;
            for (int i = 0; i < Tokens.MOST && more; i++) {
                plan.emit(Plan.CARRIED, r, 0, tokens.at);
                tokens.need(Tokens.NAME);
                more = tokens.take(Tokens.COMMA);
            }
            tokens.need(Tokens.SEMICOLON);
        }

        private void side(int which) {
            plan.emit(Plan.SIDE, which, 0, tokens.at);
            if (!tokens.take(Tokens.ENV)) {
                tokens.need(Tokens.NAME);
            }
        }

        private int secondNumber(int lowest) {
            int token = tokens.at;
            int value = number(MOST_COUNT);
            if (value < lowest) {
                tokens.blame(Tokens.FORM, tokens.place[token]);
            }
            return value;
        }

        private void heading() {
            int t = told(plan.types);
            if (t == NONE) {
                return;
            }
            kind = plan.kinds[t];
            kind.clear();
            kind.codeFrom = plan.size;
            kind.rowFrom = plan.rowCount;
            plan.emit(Plan.OWNER, t, 0, tokens.at);
            kind.least = number(MOST_COUNT);
            tokens.need(Tokens.DOTS);
            kind.most = secondNumber(kind.least);
            if (tokens.enter(Tokens.OPEN)) {
                parameters();
            }
            tokens.need(Tokens.SEMICOLON);
            where = DECLARING;
        }

        private void parameters() {
            boolean more = true;
            for (int i = 0; i < Tokens.MOST && more; i++) {
                if (tokens.seen() == Tokens.NAME && kind.pars == Plan.VALUES) {
                    tokens.fail(Tokens.ROOM, tokens.at);
                }
                int v = told(kind.variables);
                tokens.need(Tokens.COLON);
                kind.shape(v, sort(), 0);
                kind.pars = kind.variables.size;
                more = tokens.take(Tokens.COMMA);
            }
            tokens.open--;
            tokens.need(Tokens.CLOSE);
        }

        private void variable() {
            int v = told(kind.variables);
            tokens.need(Tokens.COLON);
            int token = tokens.at;
            int itsSort = sort();
            int length = 0;
            if (tokens.enter(Tokens.INDEX)) {
                length = length();
                token = tokens.at;
                tokens.open--;
                tokens.need(Tokens.INDEXED);
            }
            if (v != NONE && kind.cells + Math.max(1, length) > Net.CELLS) {
                tokens.fail(Tokens.ROOM, token);
            }
            kind.shape(v, itsSort, length);
            tokens.need(Tokens.SEMICOLON);
        }

        private int length() {
            if (tokens.seen() == Tokens.NUMBER && tokens.value[tokens.at] == 0) {
                tokens.fail(Tokens.ROOM, tokens.at);
            }
            return number(MOST_LENGTH);
        }

        private void starting() {
            tokens.need(Tokens.SEMICOLON);
            mask = AT_START;
            kind.entry = trans();
            where = STARTED;
        }

        private void stating() {
            mask = 0;
            if (tokens.take(Tokens.TIMES)) {
                mask = ALL_STATES;
            } else {
                boolean more = true;
                for (int i = 0; i < Tokens.MOST && more; i++) {
                    stateName();
                    more = tokens.take(Tokens.COMMA);
                }
            }
            tokens.need(Tokens.SEMICOLON);
            where = STATED;
        }

        private void stateName() {
            int s = tokens.seen() == Tokens.NAME ? kind.states.find(tokens.value[tokens.at]) : NONE;
            if (s == NONE) {
                s = told(kind.states);
            } else {
                tokens.take(Tokens.NAME);
            }
            if (s != NONE) {
                mask |= 1 << s;
            }
        }

        private void inputs() {
            int firstRow = plan.rowCount;
            boolean more = true;
            for (int i = 0; i < Tokens.MOST && more; i++) {
                in(plan.addRow(Tokens.INPUT, mask));
                more = tokens.take(Tokens.COMMA);
            }
            int cond = NONE;
            if (tokens.take(Tokens.IF)) {
                cond = condition();
            }
            tokens.need(Tokens.SEMICOLON);
            int body = trans();
            for (int row = firstRow; row < plan.rowCount; row++) {
                plan.rows[Plan.ROW * row + Plan.COND] = cond;
                plan.rows[Plan.ROW * row + Plan.BODY] = body;
            }
        }

        private void in(int row) {
            int op = plan.emit(Tokens.INPUT, row, 0, tokens.at);
            if (tokens.take(Tokens.TIMES)) {
                return;
            }
            tokens.need(Tokens.NAME);
            if (!tokens.enter(Tokens.OPEN)) {
                return;
            }
            int n = 0;
            boolean more = true;
            for (int i = 0; i < Tokens.MOST && more; i++) {
                if (tokens.seen() == Tokens.NAME && n == Plan.VALUES) {
                    tokens.fail(Tokens.ROOM, tokens.at);
                }
                plan.emit(Plan.INTO, row, n, tokens.at);
                tokens.need(Tokens.NAME);
                n++;
                more = tokens.take(Tokens.COMMA);
            }
            plan.aux[op] = n;
            tokens.open--;
            tokens.need(Tokens.CLOSE);
        }

        private void saves() {
            boolean more = true;
            for (int i = 0; i < Tokens.MOST && more; i++) {
                plan.emit(Tokens.SAVE, plan.addRow(Tokens.SAVE, mask), 0, tokens.at);
                if (i == 0 && tokens.take(Tokens.TIMES)) {
                    more = false;
                } else {
                    tokens.need(Tokens.NAME);
                    more = tokens.take(Tokens.COMMA);
                }
            }
            tokens.need(Tokens.SEMICOLON);
        }

        private void whens() {
            int at = Plan.ROW * plan.addRow(Tokens.WHEN, mask);
            plan.rows[at + Plan.COND] = condition();
            if (tokens.take(Tokens.PRIO)) {
                plan.rows[at + Plan.PRIO] = number(MOST_PRIO);
            }
            tokens.need(Tokens.SEMICOLON);
            plan.rows[at + Plan.BODY] = trans();
        }

        private void byItself() {
            int at = Plan.ROW * plan.addRow(Tokens.SPONTANEOUS, mask);
            tokens.need(Tokens.SEMICOLON);
            plan.rows[at + Plan.BODY] = trans();
        }

        private void finish() {
            tokens.need(Tokens.SEMICOLON);
            kind.codeTo = plan.size;
            kind.rowTo = plan.rowCount;
            where = TOP;
        }

        private int condition() {
            int from = plan.size;
            expression(0);
            plan.emit(Plan.CONDITION, 0, 0, tokens.at);
            return from;
        }

        private int trans() {
            int from = plan.emit(Plan.TRANS, mask, 0, tokens.at);
            if (!part()) {
                tokens.blame(Tokens.FORM, tokens.place[tokens.at]);
            }
            plan.aux[from] = plan.size;
            return from;
        }

        private static boolean beginsAct(int k) {
            return k == Tokens.NAME || k >= Tokens.NEXT && k <= Tokens.DECIDE;
        }

        /** Whether the part ENDS. */
        private boolean part() {
            int latest = PLAIN;
            for (int i = 0; i < Tokens.MOST && latest != LAST && beginsAct(tokens.seen()); i++) {
                latest = act();
            }
            return latest != PLAIN;
        }

        private int act() {
            labels();
            int k = tokens.seen();
            int token = tokens.at;
            if (!beginsAct(k)) {
                tokens.fail(Tokens.SYNTAX, token);
                return PLAIN;
            }
            plan.emit(Plan.ACT, tokens.place[token], 0, token);
            if (k == Tokens.DECIDE) {
                return decide() ? ENDING : PLAIN;
            }
            tokens.take(k);
            switch (k) {
                case Tokens.NAME:
                    assignment(token);
                    break;
                case Tokens.OUTPUT:
                case Tokens.CREATE:
                    tokens.need(Tokens.NAME);
                    int given = arguments();
                    direction(k, given, token + 1);
                    break;
                case Tokens.SET:
                    tokens.need(Tokens.NAME);
                    expression(0);
                    plan.emit(k, 0, 0, token + 1);
                    break;
                case Tokens.NEXT:
                    next();
                    break;
                case Tokens.STOP:
                    plan.emit(k, 0, 0, token);
                    break;
                default:
                    tokens.need(Tokens.NAME);
                    plan.emit(k, 0, 0, token + 1);
                    break;
            }
            tokens.need(Tokens.SEMICOLON);
            return k <= Tokens.JOIN && k >= Tokens.NEXT ? LAST : PLAIN;
        }

        private void labels() {
            for (int i = 0; i < Tokens.MOST && tokens.seen() == Tokens.NAME
                    && tokens.kind[tokens.at + 1] == Tokens.COLON; i++) {
                int label = told(kind.labels);
                if (label != NONE) {
                    kind.labelAt[label] = plan.size;
                }
                tokens.need(Tokens.COLON);
            }
        }

        private void assignment(int token) {
            int op = Tokens.BECOMES;
            if (tokens.enter(Tokens.INDEX)) {
                op = Plan.STORE;
                expression(0);
                plan.emit(Plan.BOUND, 0, 0, token);
                tokens.open--;
                tokens.need(Tokens.INDEXED);
            }
            tokens.need(Tokens.BECOMES);
            expression(0);
            plan.emit(op, 0, 0, token);
        }

        /** The e's in ( ): how many. */
        private int arguments() {
            if (!tokens.enter(Tokens.OPEN)) {
                return 0;
            }
            int n = 0;
            boolean more = true;
            for (int i = 0; i < Tokens.MOST && more; i++) {
                if (n == Plan.VALUES && beginsExpression(tokens.seen())) {
                    tokens.fail(Tokens.ROOM, tokens.at);
                }
                expression(0);
                n++;
                more = tokens.take(Tokens.COMMA);
            }
            tokens.open--;
            tokens.need(Tokens.CLOSE);
            return n;
        }

        private void direction(int k, int given, int token) {
            int by = 0;
            if (k == Tokens.OUTPUT && tokens.take(Tokens.TO)) {
                by = DIRECTED;
                expression(0);
            } else if (k == Tokens.OUTPUT && tokens.take(Tokens.VIA)) {
                by = ROUTED;
                tokens.need(Tokens.NAME);
            }
            plan.emit(k, 0, given + (Plan.VALUES + 1) * by, token);
            if (by == ROUTED) {
                plan.emit(Tokens.VIA, 0, 0, tokens.at - 1);
            }
        }

        private void next() {
            int token = tokens.at;
            if (!tokens.take(Tokens.MINUS)) {
                tokens.need(Tokens.NAME);
            } else if (mask == AT_START) {
                tokens.blame(Tokens.FORM, tokens.place[token]);
            }
            plan.emit(Tokens.NEXT, NONE, 0, token);
        }

        /** Whether the decide ENDS the part that it is the last act of. */
        private boolean decide() {
            if (!tokens.enter(Tokens.DECIDE)) {
                return false;
            }
            expression(0);
            plan.emit(Tokens.DECIDE, 0, 0, tokens.at);
            tokens.need(Tokens.SEMICOLON);
            int outerRanges = ranges;
            ranges = 0;
            int jump = NONE;
            boolean ends = true;
            for (int i = 0; i < Tokens.MOST && (i == 0 || beginsRange(tokens.seen())); i++) {
                ends &= branch(jump);
                jump = plan.size - 1;
            }
            ranges = outerRanges;
            boolean otherwise = tokens.take(Tokens.ELSE);
            if (otherwise) {
                tokens.need(Tokens.COLON);
                ends &= part();
            }
            for (int i = 0; i <= MOST_RANGES && jump != NONE; i++) {
                int before = plan.arg[jump];
                plan.arg[jump] = plan.size;
                jump = before;
            }
            plan.emit(Plan.DECIDED, 0, 0, tokens.at);
            tokens.open--;
            tokens.need(Tokens.FINISH);
            tokens.need(Tokens.SEMICOLON);
            return ends && otherwise;
        }

        private static boolean beginsRange(int k) {
            return k == Tokens.NUMBER || k == Tokens.MINUS || k == Tokens.TRUE || k == Tokens.FALSE;
        }

        /** Whether its part ENDS. The jump behind it holds the one before it, till the decide's end is known. */
        private boolean branch(int jump) {
            boolean more = true;
            for (int i = 0; i < Tokens.MOST && more; i++) {
                range();
                more = tokens.take(Tokens.COMMA);
            }
            tokens.need(Tokens.COLON);
            int skip = plan.emit(Plan.SKIP, 0, 0, tokens.at);
            boolean ends = part();
            plan.emit(Plan.JUMP, jump, 0, tokens.at);
            plan.arg[skip] = plan.size;
            return ends;
        }

        private void range() {
            int k = tokens.seen();
            int token = tokens.at;
            if (!beginsRange(k)) {
                tokens.fail(Tokens.SYNTAX, token);
            } else if (ranges >= MOST_RANGES) {
                tokens.fail(Tokens.ROOM, token);
            } else if (k == Tokens.TRUE || k == Tokens.FALSE) {
                int value = k == Tokens.TRUE ? 1 : 0;
                tokens.take(k);
                plan.emit(Plan.RANGE, value, value, token);
            } else {
                int low = bound();
                int high = low;
                if (tokens.take(Tokens.DOTS)) {
                    int second = tokens.at;
                    high = bound();
                    if (high < low) {
                        tokens.blame(Tokens.FORM, tokens.place[second]);
                    }
                }
                plan.emit(Plan.RANGE, low, high, token);
            }
            ranges++;
        }

        private int bound() {
            boolean minus = tokens.take(Tokens.MINUS);
            int value = (int) tokens.value[tokens.at];
            if (!tokens.take(Tokens.NUMBER)) {
                tokens.fail(Tokens.SYNTAX, tokens.at);
            }
            return minus ? -value : value;
        }

        private static boolean beginsExpression(int k) {
            return k >= Tokens.NAME && k <= Tokens.NOT || k == Tokens.MINUS || k == Tokens.OPEN;
        }

        /** How tightly an operator binds: 0 or, 1 and, 2 relations, 3 sums, 4 products. */
        private static int levelOf(int k) {
            if (k < Tokens.OR || k > Tokens.REST) {
                return NONE;
            }
            if (k <= Tokens.AND) {
                return k - Tokens.OR;
            }
            if (k <= Tokens.AT_LEAST) {
                return RELATION;
            }
            return k <= Tokens.MINUS ? RELATION + 1 : RELATION + 2;
        }

        /** Goes as deep as DEPTH lets things be open, level by level. */
        private void expression(int level) {
            if (level >= UNARY) {
                unary();
                return;
            }
            expression(level + 1);
            boolean more = true;
            for (int i = 0; i < Tokens.MOST && more && levelOf(tokens.seen()) == level; i++) {
                int k = tokens.seen();
                int token = tokens.at;
                tokens.take(k);
                expression(level + 1);
                plan.emit(k, 0, 0, token);
                more = level != RELATION;
            }
        }

        private void unary() {
            int k = tokens.seen();
            int token = tokens.at;
            if (k != Tokens.MINUS && k != Tokens.NOT) {
                operand(k, token);
            } else if (tokens.enter(k)) {
                unary();
                tokens.open--;
                plan.emit(k == Tokens.NOT ? k : Tokens.NEGATIVE, 0, 0, token);
            }
        }

        private void operand(int k, int token) {
            if (k == Tokens.OPEN) {
                if (tokens.enter(k)) {
                    expression(0);
                    tokens.open--;
                    if (!tokens.take(Tokens.CLOSE)) {
                        tokens.fail(Tokens.SYNTAX, tokens.at);
                    }
                    plan.emit(k, 0, 0, token);
                }
            } else if (k == Tokens.NAME) {
                tokens.take(k);
                if (tokens.enter(Tokens.INDEX)) {
                    expression(0);
                    tokens.open--;
                    if (!tokens.take(Tokens.INDEXED)) {
                        tokens.fail(Tokens.SYNTAX, tokens.at);
                    }
                    plan.emit(Tokens.INDEX, 0, 0, token);
                } else {
                    plan.emit(k, 0, 0, token);
                }
            } else if (k >= Tokens.NUMBER && k <= Tokens.ACTIVE) {
                plan.emit(k, (int) tokens.value[token], 0, token);
                tokens.take(k);
                if (k == Tokens.ACTIVE && !tokens.take(Tokens.NAME)) {
                    tokens.fail(Tokens.SYNTAX, tokens.at);
                }
            } else {
                tokens.fail(Tokens.SYNTAX, token);
            }
        }
    }

    /** Asks a plan whose text has neither SYNTAX nor ROOM for its other faults, and for its warnings. */
    private static final class Judge {
        private static final int INT = 0;
        private static final int BOOL = 1;
        private static final int PID = 2;
        /** The sort of an e with a fault in it, which fits everywhere. */
        private static final int UNSURE = -1;
        private static final int NO_SIDE = -2;
        private static final int STACK = 128;

        private static final int NOT_COME_TO = 1;
        private static final int NOT_SENT = 2;
        private static final int NOT_TAKEN = 3;
        private static final int NOT_CREATED = 4;
        private static final int NOT_JOINED = 5;

        private final Tokens tokens;
        private Plan plan;
        private Kind kind = new Kind();
        private int type;
        private final int[] sorts = new int[STACK];
        private final int[] firsts = new int[STACK];
        private int top;
        private final int[] decides = new int[Tokens.DEPTH + 1];
        private int depth;
        /** The signal of the in at hand, if its names can be asked for their sorts. */
        private int given;

        Judge(Tokens tokens) {
            this.tokens = tokens;
        }

        void check(Plan asked) {
            plan = asked;
            top = 0;
            depth = 0;
            given = NONE;
            for (int t = 0; t < plan.types.size; t++) {
                askNamesOf(plan.kinds[t]);
            }
            askTold(plan.signals);
            askTold(plan.routes);
            askTold(plan.types);
            // Routes may be told behind what goes by them.
            for (int pc = 0; pc < plan.size; pc++) {
                if (plan.op[pc] == Plan.SIDE || plan.op[pc] == Plan.CARRIED) {
                    askRoute(pc);
                }
            }
            for (int pc = 0; pc < plan.size; pc++) {
                int op = plan.op[pc];
                if (op >= Tokens.NAME && op <= Tokens.ACTIVE) {
                    askOperand(pc);
                } else if (op >= Tokens.NOT && op <= Tokens.NEGATIVE) {
                    askOperator(pc);
                } else if (op == Tokens.INPUT || op == Tokens.SAVE || op == Plan.INTO) {
                    askStimulus(pc);
                } else if (op >= Tokens.NEXT && op <= Tokens.DECIDE || op == Tokens.VIA) {
                    askAct(pc);
                } else {
                    askOther(pc);
                }
            }
        }

        private void blame(int number, int token) {
            tokens.blame(number, tokens.place[token]);
        }

        private void askTold(Names list) {
            for (int i = 0; i < list.size; i++) {
                long name = list.name[i];
                int where = list.place[i];
                if (plan.signals.toldAhead(name, where) || plan.routes.toldAhead(name, where)
                        || plan.types.toldAhead(name, where)) {
                    tokens.blame(Tokens.TWICE, where);
                }
            }
        }

        private void askNamesOf(Kind asked) {
            for (int i = 0; i < asked.variables.size; i++) {
                int where = asked.variables.place[i];
                if (isToldIn(asked, asked.variables.name[i], where)) {
                    tokens.blame(Tokens.TWICE, where);
                }
            }
            for (int i = 0; i < asked.timers.size; i++) {
                int where = asked.timers.place[i];
                long name = asked.timers.name[i];
                if (isToldIn(asked, name, where) || plan.signals.find(name) != NONE) {
                    tokens.blame(Tokens.TWICE, where);
                }
            }
            for (int i = 0; i < asked.labels.size; i++) {
                int where = asked.labels.place[i];
                if (asked.labels.toldAhead(asked.labels.name[i], where)) {
                    tokens.blame(Tokens.TWICE, where);
                }
            }
        }

        private static boolean isToldIn(Kind asked, long name, int where) {
            return asked.variables.toldAhead(name, where) || asked.timers.toldAhead(name, where);
        }

        private void askRoute(int pc) {
            int token = plan.tok[pc];
            if (plan.op[pc] == Plan.CARRIED) {
                int s = find(plan.signals, token);
                if (s != NONE) {
                    plan.carries[plan.arg[pc]] |= 1 << s;
                }
                return;
            }
            int side = Plan.ENV;
            if (tokens.kind[token] != Tokens.ENV) {
                int t = find(plan.types, token);
                side = t == NONE ? NO_SIDE : t;
            }
            int r = plan.arg[pc] / 2;
            if (plan.arg[pc] % 2 == 0) {
                plan.from[r] = side;
            } else {
                plan.to[r] = side;
            }
        }

        /** The number of what a name tells, which is at fault if it tells none such. */
        private int find(Names list, int token) {
            int i = list.find(tokens.value[token]);
            if (i == NONE) {
                blame(Tokens.UNKNOWN, token);
            }
            return i;
        }

        private int findVariable(int token, boolean indexed) {
            int v = find(kind.variables, token);
            if (v != NONE && kind.length[v] > 0 != indexed) {
                blame(Tokens.SORT, token);
                return NONE;
            }
            return v;
        }

        private void push(int sort, int token) {
            if (top < STACK) {
                sorts[top] = sort;
                firsts[top] = token;
                top++;
            }
        }

        /** Takes the latest e away: whether it is of a sort, and has no fault in it. */
        private boolean pops(int sort) {
            if (top == 0) {
                return false;
            }
            top--;
            if (sorts[top] == UNSURE || sort == UNSURE) {
                return false;
            }
            if (sorts[top] != sort) {
                blame(Tokens.SORT, firsts[top]);
            }
            return sorts[top] == sort;
        }

        private void askOperand(int pc) {
            int op = plan.op[pc];
            int token = plan.tok[pc];
            if (op == Tokens.NAME) {
                int v = findVariable(token, false);
                plan.arg[pc] = v == NONE ? 0 : kind.cell[v];
                push(v == NONE ? UNSURE : kind.sort[v], token);
            } else if (op == Tokens.ACTIVE) {
                int t = find(kind.timers, token + 1);
                plan.arg[pc] = Math.max(0, t);
                push(t == NONE ? UNSURE : BOOL, token);
            } else if (op == Tokens.TRUE || op == Tokens.FALSE) {
                push(BOOL, token);
            } else {
                push(op >= Tokens.NULL && op <= Tokens.OFFSPRING ? PID : INT, token);
            }
        }

        private void askOperator(int pc) {
            int op = plan.op[pc];
            int token = plan.tok[pc];
            if (op == Tokens.OPEN) {
                if (top > 0) {
                    firsts[top - 1] = token;
                }
            } else if (op == Tokens.INDEX) {
                boolean good = pops(INT);
                int v = findVariable(token, true);
                setCells(pc, v);
                push(good && v != NONE ? kind.sort[v] : UNSURE, token);
            } else if (op == Tokens.NEGATIVE || op == Tokens.NOT) {
                int sort = op == Tokens.NOT ? BOOL : INT;
                push(pops(sort) ? sort : UNSURE, token);
            } else {
                askBinary(op);
            }
        }

        private void setCells(int pc, int v) {
            plan.arg[pc] = v == NONE ? 0 : kind.cell[v];
            plan.aux[pc] = v == NONE ? 0 : kind.length[v];
        }

        private void askBinary(int op) {
            int left = top > 1 ? top - 2 : 0;
            int sort = INT;
            if (op == Tokens.EQUAL || op == Tokens.UNLIKE) {
                sort = sorts[left];
            } else if (op == Tokens.AND || op == Tokens.OR) {
                sort = BOOL;
            }
            boolean good = pops(sort);
            good &= pops(sort);
            int result = op <= Tokens.AT_LEAST ? BOOL : INT;
            push(good ? result : UNSURE, firsts[left]);
        }

        private void askStimulus(int pc) {
            int token = plan.tok[pc];
            if (plan.op[pc] == Plan.INTO) {
                askInto(pc, token);
                return;
            }
            int names = plan.aux[pc];
            given = NONE;
            if (tokens.kind[token] == Tokens.TIMES) {
                enter(pc, Plan.STAR);
                return;
            }
            int s = plan.signals.find(tokens.value[token]);
            int t = kind.timers.find(tokens.value[token]);
            if (s == NONE && t == NONE) {
                blame(Tokens.UNKNOWN, token);
                return;
            }
            int sortCount = s == NONE ? 0 : plan.sorts[s * (Plan.VALUES + 1)];
            if (names != 0 && names != sortCount) {
                blame(Tokens.SORT, token);
                return;
            }
            given = s;
            enter(pc, s == NONE ? Plan.SIGNALS + t : s);
        }

        /** Writes down the row that tells a signal, for each state at which it does. */
        private void enter(int pc, int entry) {
            int row = plan.arg[pc];
            for (int s = 0; s < kind.states.size; s++) {
                if ((plan.ofRow(row, Plan.MASK) >> s & 1) == 1) {
                    int at = Plan.tableAt(type, s, entry);
                    if (plan.table[at] != 0) {
                        blame(Tokens.FORM, plan.tok[pc]);
                    }
                    plan.table[at] = row + 1;
                }
            }
        }

        private void askInto(int pc, int token) {
            int n = plan.aux[pc];
            for (int k = 1; k <= n && 2 * k < token; k++) {
                // The names of an in stand two tokens from one another.
                if (tokens.value[token - 2 * k] == tokens.value[token]) {
                    blame(Tokens.TWICE, token);
                }
            }
            int v = findVariable(token, false);
            if (v == NONE || given == NONE || n >= Plan.VALUES) {
                return;
            }
            if (kind.sort[v] != plan.sorts[given * (Plan.VALUES + 1) + 1 + n]) {
                blame(Tokens.SORT, token);
            }
            plan.rows[Plan.ROW * plan.arg[pc] + Plan.CELL + n] = kind.cell[v];
        }

        private void askAct(int pc) {
            int token = plan.tok[pc];
            switch (plan.op[pc]) {
                case Tokens.NEXT:
                    plan.arg[pc] = tokens.kind[token] == Tokens.NAME ? find(kind.states, token) : NONE;
                    break;
                case Tokens.JOIN:
                    int label = find(kind.labels, token);
                    plan.aux[pc] = label;
                    plan.arg[pc] = label == NONE ? 0 : kind.labelAt[label];
                    break;
                case Tokens.OUTPUT:
                    askOutput(pc, token);
                    break;
                case Tokens.VIA:
                    askVia(pc, token);
                    break;
                case Tokens.SET:
                    pops(INT);
                    plan.arg[pc] = find(kind.timers, token);
                    break;
                case Tokens.RESET:
                    plan.arg[pc] = find(kind.timers, token);
                    break;
                case Tokens.CREATE:
                    askCreate(pc, token);
                    break;
                case Tokens.DECIDE:
                    askDecide();
                    break;
                default:
                    break;
            }
        }

        private void askOutput(int pc, int token) {
            int n = plan.aux[pc] % (Plan.VALUES + 1);
            if (plan.aux[pc] / (Plan.VALUES + 1) == Parser.DIRECTED) {
                pops(PID);
            }
            int s = find(plan.signals, token);
            plan.arg[pc] = s;
            int at = Math.max(0, s) * (Plan.VALUES + 1);
            boolean good = s != NONE && plan.sorts[at] == n;
            if (s != NONE && !good) {
                blame(Tokens.SORT, token);
            }
            for (int v = n; v > 0; v--) {
                pops(good ? plan.sorts[at + v] : UNSURE);
            }
        }

        private void askVia(int pc, int token) {
            int r = find(plan.routes, token);
            plan.arg[pc] = r;
            int s = pc > 0 ? plan.arg[pc - 1] : NONE;
            if (r != NONE && (plan.from[r] != type || s != NONE && (plan.carries[r] >> s & 1) == 0)) {
                blame(Tokens.FORM, token);
            }
        }

        private void askCreate(int pc, int token) {
            int n = plan.aux[pc];
            int t = find(plan.types, token);
            plan.arg[pc] = t;
            boolean good = t != NONE && plan.kinds[t].pars == n;
            if (t != NONE && !good) {
                blame(Tokens.SORT, token);
            }
            for (int v = n - 1; v >= 0; v--) {
                pops(good ? plan.kinds[t].sort[v] : UNSURE);
            }
        }

        private void askDecide() {
            int sort = top > 0 ? sorts[top - 1] : UNSURE;
            if (sort == PID) {
                pops(INT);
                sort = UNSURE;
            } else {
                pops(UNSURE);
            }
            if (depth < Tokens.DEPTH) {
                decides[depth] = sort;
                depth++;
            }
        }

        private void askOther(int pc) {
            int token = plan.tok[pc];
            switch (plan.op[pc]) {
                case Plan.OWNER:
                    type = plan.arg[pc];
                    kind = plan.kinds[type];
                    break;
                case Tokens.BECOMES:
                    int plain = findVariable(token, false);
                    plan.arg[pc] = plain == NONE ? 0 : kind.cell[plain];
                    pops(plain == NONE ? UNSURE : kind.sort[plain]);
                    break;
                case Plan.BOUND:
                    pops(INT);
                    setCells(pc, findVariable(token, true));
                    break;
                case Plan.STORE:
                    int indexed = findVariable(token, true);
                    pops(indexed == NONE ? UNSURE : kind.sort[indexed]);
                    break;
                case Plan.CONDITION:
                    pops(BOOL);
                    break;
                case Plan.RANGE:
                    askRange(token);
                    break;
                case Plan.DECIDED:
                    depth = Math.max(0, depth - 1);
                    break;
                default:
                    break;
            }
        }

        private void askRange(int token) {
            int sort = depth > 0 ? decides[depth - 1] : UNSURE;
            boolean truth = tokens.kind[token] == Tokens.TRUE || tokens.kind[token] == Tokens.FALSE;
            if (sort != UNSURE && truth != (sort == BOOL)) {
                blame(Tokens.SORT, token);
            }
        }

        void warn(Plan told) {
            plan = told;
            int sent = 0;
            int taken = 0;
            int created = 0;
            for (int pc = 0; pc < plan.size; pc++) {
                int op = plan.op[pc];
                if (op == Tokens.OUTPUT) {
                    sent |= 1 << plan.arg[pc];
                } else if (op == Tokens.CREATE) {
                    created |= 1 << plan.arg[pc];
                } else if (op == Tokens.INPUT && tokens.kind[plan.tok[pc]] == Tokens.NAME) {
                    int s = plan.signals.find(tokens.value[plan.tok[pc]]);
                    taken |= s == NONE ? 0 : 1 << s;
                }
            }
            for (int r = 0; r < plan.routes.size; r++) {
                sent |= plan.from[r] == Plan.ENV ? plan.carries[r] : 0;
                taken |= plan.to[r] == Plan.ENV ? plan.carries[r] : 0;
            }
            warnOfAll(plan.signals, sent, NOT_SENT);
            warnOfAll(plan.signals, taken, NOT_TAKEN);
            for (int t = 0; t < plan.types.size; t++) {
                created |= plan.kinds[t].least > 0 ? 1 << t : 0;
                warnOfType(plan.kinds[t]);
            }
            warnOfAll(plan.types, created, NOT_CREATED);
        }

        /** Warns of those whose bits are not there. */
        private void warnOfAll(Names list, int good, int number) {
            for (int i = 0; i < list.size; i++) {
                if ((good >> i & 1) == 0) {
                    addWarning(number, list.place[i]);
                }
            }
        }

        private void addWarning(int number, int where) {
            if (plan.warningCount >= Plan.WARNINGS) {
                return;
            }
            int[] rows = plan.warnings;
            int i = plan.warningCount;
            for (; i > 0 && isBehind(rows, i - 1, number, where); i--) {
                rows[2 * i] = rows[2 * i - 2];
                rows[2 * i + 1] = rows[2 * i - 1];
            }
            rows[2 * i] = number;
            rows[2 * i + 1] = where;
            plan.warningCount++;
        }

        private static boolean isBehind(int[] rows, int i, int number, int where) {
            return rows[2 * i + 1] > where || rows[2 * i + 1] == where && rows[2 * i] > number;
        }

        private void warnOfType(Kind asked) {
            int come = Parser.AT_START;
            int joined = 0;
            // Each round but the last finds a state or a label more.
            for (int round = 0; round <= Kind.STATES + Kind.LABELS; round++) {
                boolean live = false;
                for (int pc = asked.codeFrom; pc < asked.codeTo; pc++) {
                    int op = plan.op[pc];
                    if (op == Plan.TRANS) {
                        live = (plan.arg[pc] & come) != 0 || holdsLabel(asked, pc, joined);
                    } else if (live && op == Tokens.NEXT && plan.arg[pc] != NONE) {
                        come |= 1 << plan.arg[pc];
                    } else if (live && op == Tokens.JOIN) {
                        joined |= 1 << plan.aux[pc];
                    }
                }
            }
            warnOfAll(asked.states, come, NOT_COME_TO);
            warnOfAll(asked.labels, joinsOf(asked), NOT_JOINED);
        }

        private boolean holdsLabel(Kind asked, int trans, int labels) {
            for (int i = 0; i < asked.labels.size; i++) {
                if ((labels >> i & 1) == 1 && asked.labelAt[i] > trans && asked.labelAt[i] < plan.aux[trans]) {
                    return true;
                }
            }
            return false;
        }

        private int joinsOf(Kind asked) {
            int joins = 0;
            for (int pc = asked.codeFrom; pc < asked.codeTo; pc++) {
                if (plan.op[pc] == Tokens.JOIN) {
                    joins |= 1 << plan.aux[pc];
                }
            }
            return joins;
        }
    }

    /** The instances that are alive, by pids, and the signals that are on the way. */
    private static final class Net {
        static final int ALIVE = 12;
        static final int CELLS = 16;
        static final int TIMERS = 3;
        static final int QUEUE = 6;
        static final int WAY = 6;

        // A signal: its number, sender, receiver, values; on the way also when it will arrive.
        static final int SIGNAL = 0;
        static final int SENDER = 1;
        static final int RECEIVER = 2;
        static final int VALUES = 3;
        static final int MESSAGE = 6;
        static final int TIME = 6;
        static final int ON_WAY = 7;
        /** From one instance's queue to the next one's. */
        static final int QUEUED = QUEUE * MESSAGE;

        private static final int HEAD = 8;
        /** The most elements that pack() writes. */
        static final int PACKED = 2 + ALIVE * (HEAD + CELLS + QUEUE * MESSAGE) + Plan.ROUTES * (1 + WAY * MESSAGE);

        final int[] pid = new int[ALIVE];
        final int[] kind = new int[ALIVE];
        /** The state; NONE at the BEGINNING. */
        final int[] at = new int[ALIVE];
        final int[] sender = new int[ALIVE];
        final int[] parent = new int[ALIVE];
        final int[] offspring = new int[ALIVE];
        final int[] queued = new int[ALIVE];
        final int[] cells = new int[ALIVE * CELLS];
        final int[] timers = new int[ALIVE * TIMERS];
        final int[] queue = new int[ALIVE * QUEUE * MESSAGE];
        final int[] rowSize = new int[Plan.ROUTES];
        final int[] rows = new int[Plan.ROUTES * WAY * ON_WAY];
        int alive;
        int nextPid;
        int now;
        int seed;
        int last;

        void clear(int itsSeed) {
            alive = 0;
            nextPid = 1;
            now = 0;
            seed = itsSeed;
            last = 0;
            Arrays.fill(rowSize, 0);
        }

        static int rowAt(int r, int n) {
            return (r * WAY + n) * ON_WAY;
        }

        int find(int itsPid) {
            for (int i = 0; i < alive; i++) {
                if (pid[i] == itsPid) {
                    return i;
                }
            }
            return NONE;
        }

        int countOf(int type) {
            int n = 0;
            for (int i = 0; i < alive; i++) {
                n += kind[i] == type ? 1 : 0;
            }
            return n;
        }

        /** The least pid of a type; 0 without one. */
        int leastOf(int type) {
            for (int i = 0; i < alive; i++) {
                if (kind[i] == type) {
                    return pid[i];
                }
            }
            return 0;
        }

        /** Makes an instance; the caller has seen that there is room. */
        int make(int type, int itsParent) {
            int i = Math.min(alive, ALIVE - 1);
            pid[i] = nextPid;
            kind[i] = type;
            at[i] = NONE;
            sender[i] = 0;
            parent[i] = itsParent;
            offspring[i] = 0;
            queued[i] = 0;
            Arrays.fill(cells, i * CELLS, (i + 1) * CELLS, 0);
            Arrays.fill(timers, i * TIMERS, (i + 1) * TIMERS, NONE);
            nextPid++;
            alive = i + 1;
            return i;
        }

        void drop(int i) {
            int rest = alive - i - 1;
            if (rest < 0) {
                return;
            }
            System.arraycopy(pid, i + 1, pid, i, rest);
            System.arraycopy(kind, i + 1, kind, i, rest);
            System.arraycopy(at, i + 1, at, i, rest);
            System.arraycopy(sender, i + 1, sender, i, rest);
            System.arraycopy(parent, i + 1, parent, i, rest);
            System.arraycopy(offspring, i + 1, offspring, i, rest);
            System.arraycopy(queued, i + 1, queued, i, rest);
            System.arraycopy(cells, (i + 1) * CELLS, cells, i * CELLS, rest * CELLS);
            System.arraycopy(timers, (i + 1) * TIMERS, timers, i * TIMERS, rest * TIMERS);
            System.arraycopy(queue, (i + 1) * QUEUED, queue, i * QUEUED, rest * QUEUED);
            alive--;
        }

        /** Puts a signal behind a queue, if there is room. */
        boolean push(int i, int[] message) {
            if (queued[i] >= QUEUE) {
                return false;
            }
            System.arraycopy(message, 0, queue, i * QUEUED + queued[i] * MESSAGE, MESSAGE);
            queued[i]++;
            return true;
        }

        void pull(int i, int q, int[] message) {
            System.arraycopy(queue, i * QUEUED + q * MESSAGE, message, 0, MESSAGE);
            remove(i, q);
        }

        private void remove(int i, int q) {
            int rest = queued[i] - q - 1;
            if (rest >= 0) {
                int at = i * QUEUED + q * MESSAGE;
                System.arraycopy(queue, at + MESSAGE, queue, at, rest * MESSAGE);
                queued[i]--;
            }
        }

        /** A timer is not set any more, and its signals go out of the queue. */
        void cancel(int i, int t) {
            timers[i * TIMERS + t] = NONE;
            for (int q = queued[i] - 1; q >= 0; q--) {
                if (queue[i * QUEUED + q * MESSAGE] == Plan.TIMER_SIGNAL + t) {
                    remove(i, q);
                }
            }
        }

        boolean isActive(int i, int t) {
            if (timers[i * TIMERS + t] != NONE) {
                return true;
            }
            int at = i * QUEUED;
            for (int q = 0; q < queued[i]; q++) {
                if (queue[at + q * MESSAGE] == Plan.TIMER_SIGNAL + t) {
                    return true;
                }
            }
            return false;
        }

        /** Puts a signal behind what is on the way, not to arrive ahead of it; the caller has seen that there is room. */
        void depart(int r, int[] message, int time) {
            int n = Math.min(rowSize[r], WAY - 1);
            System.arraycopy(message, 0, rows, rowAt(r, n), MESSAGE);
            int before = n == 0 ? 0 : rows[rowAt(r, n - 1) + TIME];
            rows[rowAt(r, n) + TIME] = Math.max(time, before);
            rowSize[r] = n + 1;
        }

        void takeFirst(int r, int[] message) {
            System.arraycopy(rows, rowAt(r, 0), message, 0, MESSAGE);
            int rest = rowSize[r] - 1;
            if (rest >= 0) {
                System.arraycopy(rows, rowAt(r, 1), rows, rowAt(r, 0), rest * ON_WAY);
                rowSize[r] = rest;
            }
        }

        /** The least time of what is on the way or set; NONE if nothing is. */
        int nextTime(int routes) {
            int least = NONE;
            for (int r = 0; r < routes; r++) {
                if (rowSize[r] > 0) {
                    least = earlier(least, rows[rowAt(r, 0) + TIME]);
                }
            }
            for (int t = 0; t < alive * TIMERS; t++) {
                if (timers[t] != NONE) {
                    least = earlier(least, timers[t]);
                }
            }
            return least;
        }

        private static int earlier(int least, int time) {
            return least == NONE ? time : Math.min(least, time);
        }

        /** Writes down all by which states are alike, times aside: where that ends. */
        int pack(Plan plan, int[] to, int from) {
            to[from] = nextPid;
            to[from + 1] = alive;
            int end = from + 2;
            for (int i = 0; i < alive; i++) {
                end = packOne(i, plan.kinds[kind[i]].cells, to, end);
            }
            for (int r = 0; r < plan.routes.size; r++) {
                to[end] = rowSize[r];
                end++;
                for (int n = 0; n < rowSize[r]; n++) {
                    System.arraycopy(rows, rowAt(r, n), to, end, MESSAGE);
                    end += MESSAGE;
                }
            }
            return end;
        }

        private int packOne(int i, int cellCount, int[] to, int from) {
            to[from] = pid[i];
            to[from + 1] = kind[i];
            to[from + 2] = at[i];
            to[from + 3] = sender[i];
            to[from + 4] = parent[i];
            to[from + 5] = offspring[i];
            to[from + 6] = queued[i];
            int set = 0;
            for (int t = 0; t < TIMERS; t++) {
                set |= timers[i * TIMERS + t] != NONE ? 1 << t : 0;
            }
            to[from + 7] = set;
            System.arraycopy(cells, i * CELLS, to, from + HEAD, cellCount);
            System.arraycopy(queue, i * QUEUED, to, from + HEAD + cellCount, queued[i] * MESSAGE);
            return from + HEAD + cellCount + queued[i] * MESSAGE;
        }

        /** Becomes what was packed; all times are now. */
        void unpack(Plan plan, int[] of, int from) {
            nextPid = of[from];
            alive = of[from + 1];
            int end = from + 2;
            for (int i = 0; i < alive; i++) {
                end = unpackOne(i, plan, of, end);
            }
            for (int r = 0; r < plan.routes.size; r++) {
                rowSize[r] = of[end];
                end++;
                for (int n = 0; n < rowSize[r]; n++) {
                    System.arraycopy(of, end, rows, rowAt(r, n), MESSAGE);
                    rows[rowAt(r, n) + TIME] = now;
                    end += MESSAGE;
                }
            }
        }

        private int unpackOne(int i, Plan plan, int[] of, int from) {
            pid[i] = of[from];
            kind[i] = of[from + 1];
            at[i] = of[from + 2];
            sender[i] = of[from + 3];
            parent[i] = of[from + 4];
            offspring[i] = of[from + 5];
            queued[i] = of[from + 6];
            for (int t = 0; t < TIMERS; t++) {
                timers[i * TIMERS + t] = (of[from + 7] >> t & 1) == 1 ? now : NONE;
            }
            int cellCount = plan.kinds[kind[i]].cells;
            Arrays.fill(cells, i * CELLS, (i + 1) * CELLS, 0);
            System.arraycopy(of, from + HEAD, cells, i * CELLS, cellCount);
            System.arraycopy(of, from + HEAD + cellCount, queue, i * QUEUED, queued[i] * MESSAGE);
            return from + HEAD + cellCount + queued[i] * MESSAGE;
        }
    }

    /** What came: the trace, what was out, and the counts of a run; of a quiet one just the counts. */
    private static final class Log {
        static final int MADE = 0;
        static final int SENT = 1;
        static final int TAKEN = 2;
        static final int LOST = 3;
        static final int OUT = 4;
        static final int MOVED = 5;
        static final int STOPPED = 6;
        static final int ERROR = 7;
        static final int RANG = 8;

        private static final int EVENTS = 500;
        private static final int EVENT = 4;
        private static final int OUTS = 200;
        private static final int ONE_OUT = 6;

        private final boolean quiet;
        private final int[] events;
        private int eventFrom;
        int eventSize;
        private final int[] outs;
        private int outFrom;
        private int outSize;
        int made;
        int lost;
        int errors;
        int error;
        int errorPlace;
        int steps;
        int outCount;

        Log(boolean quiet) {
            this.quiet = quiet;
            events = new int[quiet ? 0 : EVENTS * EVENT];
            outs = new int[quiet ? 0 : OUTS * ONE_OUT];
        }

        void clear() {
            eventFrom = 0;
            eventSize = 0;
            outFrom = 0;
            outSize = 0;
            made = 0;
            lost = 0;
            errors = 0;
            error = 0;
            errorPlace = 0;
            steps = 0;
            outCount = 0;
        }

        void note(int what, int who, int signal, int other) {
            made += what == MADE ? 1 : 0;
            lost += what == LOST ? 1 : 0;
            errors += what == ERROR ? 1 : 0;
            if (quiet) {
                return;
            }
            int at = (eventFrom + eventSize) % EVENTS * EVENT;
            if (eventSize < EVENTS) {
                eventSize++;
            } else {
                eventFrom = (eventFrom + 1) % EVENTS;
            }
            events[at] = what;
            events[at + 1] = who;
            events[at + 2] = signal;
            events[at + 3] = other;
        }

        void noteOut(int[] message, int now) {
            outCount++;
            if (quiet) {
                return;
            }
            int at = (outFrom + outSize) % OUTS * ONE_OUT;
            if (outSize < OUTS) {
                outSize++;
            } else {
                outFrom = (outFrom + 1) % OUTS;
            }
            outs[at] = message[Net.SIGNAL];
            outs[at + 1] = message[Net.SENDER];
            outs[at + 2] = now;
            System.arraycopy(message, Net.VALUES, outs, at + 3, Plan.VALUES);
        }

        int eventAt(int i, int what) {
            if (i < 0 || i >= eventSize || what < 0 || what >= EVENT) {
                return NONE;
            }
            return events[(eventFrom + i) % EVENTS * EVENT + what];
        }

        int outAt(int i, int what) {
            if (i < 0 || i >= outSize || what < 0 || what >= ONE_OUT) {
                return NONE;
            }
            return outs[(outFrom + i) % OUTS * ONE_OUT + what];
        }
    }

    /** Lets the instances of a net live by a plan. */
    private static final class Runner {
        static final int LATEST = 2000000000;
        static final int STARTS = 1;
        static final int TAKES = 2;
        static final int LOSES = 3;
        static final int SEES = 4;

        private static final int BAD_INDEX = 1;
        private static final int BAD_DIVISOR = 2;
        private static final int NO_WAY = 3;
        private static final int TOO_LONG = 4;

        private static final int MOST_ACTS = 200;
        private static final int STACK = 128;
        private static final int MANY = 1000000;

        final Net net = new Net();
        final Log log;
        private Plan plan;
        private final int[] stack = new int[STACK];
        private int top;
        private int error;
        private int acts;
        private int place;
        private int decided;
        private boolean matched;
        private final int[] message = new int[Net.MESSAGE];
        /** The route on which the message at hand is sent; NONE without. */
        private int outgoing;
        private int pickedSignal;
        private int pickedRow;
        private int pickedStep;
        private boolean searching;

        Runner(Log log) {
            this.log = log;
        }

        int start(Plan its, int seed) {
            plan = its;
            net.clear(seed);
            log.clear();
            for (int t = 0; t < plan.types.size; t++) {
                for (int n = 0; n < plan.kinds[t].least && net.alive < Net.ALIVE; n++) {
                    log.note(Log.MADE, net.pid[net.make(t, 0)], NONE, 0);
                }
            }
            return net.alive;
        }

        /** From here on it only tries what could come: nothing is drawn. */
        void probe(Plan its, int now) {
            plan = its;
            searching = true;
            net.clear(0);
            net.now = now;
            log.clear();
        }

        static int later(int now, int by) {
            return (int) Math.min((long) LATEST, (long) now + Math.max(0, by));
        }

        int advance(int n) {
            int done = 0;
            boolean rests = false;
            for (int i = 0; i < MANY && done < n && !rests; i++) {
                bringDue();
                int next = nextReady();
                if (next != NONE) {
                    takeTurn(next);
                    done++;
                } else {
                    int time = net.nextTime(plan.routes.size);
                    rests = time == NONE;
                    net.now = rests ? net.now : time;
                }
            }
            return done;
        }

        private void takeTurn(int i) {
            net.last = net.pid[i];
            log.steps++;
            step(i, pickedStep);
        }

        /** The first one that is READY by pids behind the one that went last, around. */
        private int nextReady() {
            for (int round = 0; round < 2; round++) {
                for (int i = 0; i < net.alive; i++) {
                    if (net.pid[i] > net.last == (round == 0)) {
                        pickedStep = choose(i);
                        if (pickedStep != 0) {
                            return i;
                        }
                    }
                }
            }
            return NONE;
        }

        int byHand(int pid) {
            bringDue();
            int i = net.find(pid);
            if (i == NONE) {
                return 0;
            }
            pickedStep = choose(i);
            if (pickedStep == 0) {
                return 0;
            }
            takeTurn(i);
            return 1;
        }

        int byItself(int pid, int k) {
            bringDue();
            int i = net.find(pid);
            if (i == NONE || k < 0) {
                return 0;
            }
            int left = k;
            Kind kind = plan.kinds[net.kind[i]];
            for (int row = kind.rowFrom; row < kind.rowTo; row++) {
                if (stands(row, Tokens.SPONTANEOUS, i)) {
                    if (left == 0) {
                        stir(i, row);
                        return 1;
                    }
                    left--;
                }
            }
            return 0;
        }

        /** Whether a row is of some kind and stands at the state of an instance. */
        boolean stands(int row, int what, int i) {
            return net.at[i] != NONE && plan.ofRow(row, 0) == what
                && (plan.ofRow(row, Plan.MASK) >> net.at[i] & 1) == 1;
        }

        /** An instance does a trans that no signal asks for. */
        void stir(int i, int row) {
            net.sender[i] = net.pid[i];
            perform(i, plan.ofRow(row, Plan.BODY));
        }

        boolean fromEnv(int signal, int pid, int a, int b, int c) {
            int i = net.find(pid);
            if (i == NONE || signal < 0 || signal >= plan.signals.size) {
                return false;
            }
            int route = plan.findRoute(Plan.ENV, net.kind[i], signal);
            if (route == NONE) {
                return false;
            }
            message[Net.SIGNAL] = signal;
            message[Net.SENDER] = 0;
            message[Net.RECEIVER] = pid;
            message[Net.VALUES] = valued(signal, 0, a);
            message[Net.VALUES + 1] = valued(signal, 1, b);
            message[Net.VALUES + 2] = valued(signal, 2, c);
            send(route);
            return true;
        }

        /** A value as the sort of a signal's place has it; 0 where it has none. */
        private int valued(int signal, int n, int value) {
            int at = signal * (Plan.VALUES + 1);
            if (n >= plan.sorts[at]) {
                return 0;
            }
            boolean truth = plan.sorts[at + 1 + n] == Tokens.BOOL - Tokens.INT;
            return truth ? (value != 0 ? 1 : 0) : value;
        }

        private void bringDue() {
            for (int r = 0; r < plan.routes.size; r++) {
                for (int n = 0; n < Net.WAY && net.rowSize[r] > 0
                        && net.rows[Net.rowAt(r, 0) + Net.TIME] <= net.now; n++) {
                    land(r);
                }
            }
            for (int i = 0; i < net.alive; i++) {
                for (int t = 0; t < Net.TIMERS; t++) {
                    int time = net.timers[i * Net.TIMERS + t];
                    if (time != NONE && time <= net.now) {
                        ring(i, t);
                    }
                }
            }
        }

        /** The first signal on a route arrives. */
        void land(int r) {
            net.takeFirst(r, message);
            arrive();
        }

        /** A timer comes. */
        void ring(int i, int t) {
            int pid = net.pid[i];
            net.timers[i * Net.TIMERS + t] = NONE;
            log.note(Log.RANG, pid, Plan.TIMER_SIGNAL + t, pid);
            Arrays.fill(message, 0);
            message[Net.SIGNAL] = Plan.TIMER_SIGNAL + t;
            message[Net.SENDER] = pid;
            message[Net.RECEIVER] = pid;
            arrive();
        }

        /** The message at hand goes on a route. */
        private void send(int r) {
            if (plan.low[r] == NONE && net.rowSize[r] == 0) {
                arrive();
            } else if (net.rowSize[r] >= Net.WAY) {
                log.note(Log.LOST, message[Net.RECEIVER], message[Net.SIGNAL], message[Net.SENDER]);
            } else {
                net.depart(r, message, later(net.now, delay(r)));
            }
        }

        private int delay(int r) {
            if (plan.low[r] == NONE || searching) {
                return 0;
            }
            if (plan.high[r] == NONE) {
                return plan.low[r];
            }
            net.seed = net.seed * 1103515245 + 12345;
            int choices = Math.max(1, plan.high[r] - plan.low[r] + 1);
            return plan.low[r] + (net.seed >>> 16) % choices;
        }

        private void arrive() {
            int to = message[Net.RECEIVER];
            if (to == 0) {
                log.noteOut(message, net.now);
                log.note(Log.OUT, 0, message[Net.SIGNAL], message[Net.SENDER]);
                return;
            }
            int i = net.find(to);
            if (i == NONE || !net.push(i, message)) {
                log.note(Log.LOST, to, message[Net.SIGNAL], message[Net.SENDER]);
            }
        }

        /** What an instance's STEP would be, 0 for none. */
        int choose(int i) {
            if (net.at[i] == NONE) {
                return STARTS;
            }
            for (int q = 0; q < net.queued[i]; q++) {
                int row = plan.teller(net.kind[i], net.at[i], net.queue[i * Net.QUEUED + q * Net.MESSAGE]);
                boolean input = row != NONE && plan.ofRow(row, 0) == Tokens.INPUT;
                if (row == NONE || input && holds(i, plan.ofRow(row, Plan.COND))) {
                    pickedSignal = q;
                    pickedRow = row;
                    return row == NONE ? LOSES : TAKES;
                }
            }
            pickedRow = NONE;
            Kind kind = plan.kinds[net.kind[i]];
            for (int row = kind.rowFrom; row < kind.rowTo; row++) {
                if (stands(row, Tokens.WHEN, i) && isBetter(row) && holds(i, plan.ofRow(row, Plan.COND))) {
                    pickedRow = row;
                }
            }
            return pickedRow == NONE ? 0 : SEES;
        }

        private boolean isBetter(int row) {
            return pickedRow == NONE || plan.ofRow(row, Plan.PRIO) < plan.ofRow(pickedRow, Plan.PRIO);
        }

        /** Whether an if or when is true; one that is not told is. */
        private boolean holds(int i, int cond) {
            if (cond == NONE) {
                return true;
            }
            top = 0;
            error = 0;
            evaluate(i, cond);
            boolean good = error == 0 && stack[0] != 0;
            error = 0;
            return good;
        }

        /** Does the STEP that was chosen. */
        void step(int i, int what) {
            int body = NONE;
            if (what == STARTS) {
                body = plan.kinds[net.kind[i]].entry;
            } else if (what == SEES) {
                net.sender[i] = net.pid[i];
                body = plan.ofRow(pickedRow, Plan.BODY);
            } else {
                net.pull(i, pickedSignal, message);
                net.sender[i] = message[Net.SENDER];
                int event = what == TAKES ? Log.TAKEN : Log.LOST;
                log.note(event, net.pid[i], message[Net.SIGNAL], message[Net.SENDER]);
                if (what == TAKES) {
                    keepValues(i);
                    body = plan.ofRow(pickedRow, Plan.BODY);
                }
            }
            if (body != NONE) {
                perform(i, body);
            }
        }

        private void keepValues(int i) {
            for (int v = 0; v < Plan.VALUES; v++) {
                int cell = plan.ofRow(pickedRow, Plan.CELL + v);
                if (cell != NONE) {
                    net.cells[i * Net.CELLS + cell] = message[Net.VALUES + v];
                }
            }
        }

        private void perform(int i, int body) {
            int pc = body;
            acts = 0;
            error = 0;
            top = 0;
            for (int n = 0; n < MANY && pc >= 0 && pc < plan.size; n++) {
                pc = evaluate(i, pc);
                outgoing = NONE;
                if (error == 0 && pc < plan.size) {
                    pc = act(i, pc);
                }
                if (outgoing != NONE) {
                    send(outgoing);
                }
                if (error != 0) {
                    fail(i);
                    pc = NONE;
                }
            }
        }

        private void fail(int i) {
            log.error = error;
            log.errorPlace = place;
            log.note(Log.ERROR, net.pid[i], NONE, 0);
            halt(i);
        }

        private void halt(int i) {
            int pid = net.pid[i];
            log.note(Log.STOPPED, pid, NONE, 0);
            for (int q = 0; q < net.queued[i]; q++) {
                int at = i * Net.QUEUED + q * Net.MESSAGE;
                log.note(Log.LOST, pid, net.queue[at + Net.SIGNAL], net.queue[at + Net.SENDER]);
            }
            net.drop(i);
        }

        private int pop() {
            top = Math.max(0, top - 1);
            return stack[top];
        }

        private void push(int value) {
            if (top < STACK) {
                stack[top] = value;
                top++;
            }
        }

        /** Works out what stands of e's from pc on: where that ends. */
        private int evaluate(int i, int pc) {
            int at = pc;
            boolean more = true;
            for (int n = 0; n < Plan.CODE && more && error == 0 && at < plan.size; n++) {
                int op = plan.op[at];
                if (op >= Tokens.NAME && op <= Tokens.ACTIVE) {
                    push(operand(i, op, plan.arg[at]));
                    at++;
                } else if (op >= Tokens.OR && op <= Tokens.REST) {
                    int right = pop();
                    int left = pop();
                    push(combine(op, left, right));
                    at++;
                } else if (op >= Tokens.NOT && op <= Tokens.NEGATIVE) {
                    push(change(i, at, pop()));
                    at++;
                } else {
                    more = false;
                }
            }
            return at;
        }

        private int operand(int i, int op, int arg) {
            switch (op) {
                case Tokens.NAME:
                    return net.cells[i * Net.CELLS + arg];
                case Tokens.NUMBER:
                    return arg;
                case Tokens.TRUE:
                    return 1;
                case Tokens.SELF:
                    return net.pid[i];
                case Tokens.SENDER:
                    return net.sender[i];
                case Tokens.PARENT:
                    return net.parent[i];
                case Tokens.OFFSPRING:
                    return net.offspring[i];
                case Tokens.NOW:
                    return net.now;
                case Tokens.WAITING:
                    return net.queued[i];
                case Tokens.ACTIVE:
                    return net.isActive(i, arg) ? 1 : 0;
                default:
                    return 0;
            }
        }

        private int change(int i, int at, int value) {
            switch (plan.op[at]) {
                case Tokens.NOT:
                    return 1 - value;
                case Tokens.NEGATIVE:
                    return -value;
                case Tokens.INDEX:
                    int cell = bound(at, value);
                    return error == 0 ? net.cells[i * Net.CELLS + cell] : 0;
                default:
                    return value;
            }
        }

        /** The cell of an array's element. */
        private int bound(int at, int index) {
            if (index < 0 || index >= plan.aux[at]) {
                error = BAD_INDEX;
                return 0;
            }
            return plan.arg[at] + index;
        }

        private int combine(int op, int left, int right) {
            switch (op) {
                case Tokens.OR:
                    return left | right;
                case Tokens.AND:
                    return left & right;
                case Tokens.EQUAL:
                    return left == right ? 1 : 0;
                case Tokens.UNLIKE:
                    return left != right ? 1 : 0;
                case Tokens.LESS:
                    return left < right ? 1 : 0;
                case Tokens.AT_MOST:
                    return left <= right ? 1 : 0;
                case Tokens.MORE:
                    return left > right ? 1 : 0;
                case Tokens.AT_LEAST:
                    return left >= right ? 1 : 0;
                case Tokens.PLUS:
                    return left + right;
                case Tokens.MINUS:
                    return left - right;
                case Tokens.TIMES:
                    return left * right;
                default:
                    break;
            }
            if (right == 0) {
                error = BAD_DIVISOR;
                return 0;
            }
            return op == Tokens.OVER ? left / right : left % right;
        }

        /** Does what stands at pc: where to go on, NONE behind a next or stop. */
        private int act(int i, int pc) {
            int arg = plan.arg[pc];
            switch (plan.op[pc]) {
                case Plan.ACT:
                    place = arg;
                    top = 0;
                    acts++;
                    error = acts > MOST_ACTS ? TOO_LONG : 0;
                    return pc + 1;
                case Tokens.BECOMES:
                    net.cells[i * Net.CELLS + arg] = pop();
                    return pc + 1;
                case Plan.BOUND:
                    push(bound(pc, pop()));
                    return pc + 1;
                case Plan.STORE:
                    int value = pop();
                    net.cells[i * Net.CELLS + pop()] = value;
                    return pc + 1;
                case Tokens.OUTPUT:
                    address(i, pc);
                    return pc + 1;
                case Tokens.SET:
                    net.cancel(i, arg);
                    net.timers[i * Net.TIMERS + arg] = later(net.now, pop());
                    return pc + 1;
                case Tokens.RESET:
                    net.cancel(i, arg);
                    return pc + 1;
                case Tokens.CREATE:
                    create(i, arg, plan.aux[pc]);
                    return pc + 1;
                case Tokens.DECIDE:
                    decided = pop();
                    matched = false;
                    return pc + 1;
                case Plan.RANGE:
                    matched |= decided >= arg && decided <= plan.aux[pc];
                    return pc + 1;
                case Plan.SKIP:
                    return matched ? pc + 1 : arg;
                case Plan.JUMP:
                case Tokens.JOIN:
                    return arg;
                case Tokens.NEXT:
                    net.at[i] = arg == NONE ? net.at[i] : arg;
                    log.note(Log.MOVED, net.pid[i], NONE, 0);
                    return NONE;
                case Tokens.STOP:
                    halt(i);
                    return NONE;
                default:
                    return pc + 1;
            }
        }

        /** Makes the message of an output, and finds who gets it and by which route. */
        private void address(int i, int pc) {
            int signal = plan.arg[pc];
            int n = plan.aux[pc] % (Plan.VALUES + 1);
            int by = plan.aux[pc] / (Plan.VALUES + 1);
            int to = by == Parser.DIRECTED ? pop() : 0;
            int receiver = by == Parser.DIRECTED ? net.find(to) : NONE;
            int route = NONE;
            if (by == Parser.ROUTED) {
                route = pc + 1 < plan.size ? plan.arg[pc + 1] : NONE;
            } else if (by == Parser.DIRECTED) {
                route = receiver == NONE ? NONE : plan.findRoute(net.kind[i], net.kind[receiver], signal);
            } else {
                route = plan.findRoute(net.kind[i], Plan.ANY, signal);
            }
            boolean lost = by == Parser.DIRECTED && receiver == NONE;
            if (route == NONE && !lost) {
                error = NO_WAY;
                return;
            }
            if (by != Parser.DIRECTED && plan.to[route] != Plan.ENV) {
                to = net.leastOf(plan.to[route]);
                lost = to == 0;
            }
            fill(signal, net.pid[i], to, n);
            log.note(Log.SENT, net.pid[i], signal, to);
            if (lost) {
                log.note(Log.LOST, to, signal, net.pid[i]);
            } else {
                outgoing = route;
            }
        }

        private void fill(int signal, int from, int to, int values) {
            message[Net.SIGNAL] = signal;
            message[Net.SENDER] = from;
            message[Net.RECEIVER] = to;
            int given = Math.max(0, top - values);
            for (int v = 0; v < Plan.VALUES; v++) {
                message[Net.VALUES + v] = v < values ? stack[given + v] : 0;
            }
        }

        private void create(int i, int type, int values) {
            Kind kind = plan.kinds[type];
            net.offspring[i] = 0;
            if (net.alive >= Net.ALIVE || net.countOf(type) >= kind.most) {
                return;
            }
            int made = net.make(type, net.pid[i]);
            for (int v = values - 1; v >= 0; v--) {
                net.cells[made * Net.CELLS + v] = pop();
            }
            net.offspring[i] = net.pid[made];
            log.note(Log.MADE, net.pid[made], NONE, net.pid[i]);
        }
    }

    /** Finds all states that can come of a run. */
    private static final class Seeker {
        static final int MOST = 200;
        private static final int FIRST_POOL = 4096;

        private final Runner runner;
        private Plan plan;
        private final int[] from = new int[MOST];
        private final int[] move = new int[MOST];
        private final int[] depth = new int[MOST];
        /** How many moves a state has; NONE if it was not gone through. */
        private final int[] moves = new int[MOST];
        private final int[] lost = new int[MOST];
        private final int[] errors = new int[MOST];
        private final int[] hash = new int[MOST];
        /** Where each packed state begins in the pool; behind the last one there is room to try the next. */
        private final int[] begins = new int[MOST + 1];
        private int[] pool = new int[0];
        private int found;
        private int limit;
        private int looked;
        private boolean cut;
        private int movesHere;
        private int lostHere;
        private int errorsHere;

        Seeker(Runner runner) {
            this.runner = runner;
        }

        void forget() {
            found = 0;
            looked = 0;
            cut = false;
        }

        int find(Plan its, Net start, int n) {
            forget();
            plan = its;
            limit = n;
            runner.probe(plan, start.now);
            makeRoom();
            keep(NONE, NONE, start.pack(plan, pool, 0));
            for (int k = 0; k < found && !cut; k++) {
                goThrough(k);
                stirAll(k);
                if (!cut) {
                    moves[k] = movesHere;
                    lost[k] = lostHere;
                    errors[k] = errorsHere;
                }
            }
            return found;
        }

        private void makeRoom() {
            int needed = begins[found] + Net.PACKED;
            if (needed > pool.length) {
                pool = Arrays.copyOf(pool, Math.max(FIRST_POOL, Math.min(2 * needed, (MOST + 1) * Net.PACKED)));
            }
        }

        /** The state that stands packed at the pool's end is a new one. */
        private void keep(int source, int by, int end) {
            from[found] = source;
            move[found] = by;
            depth[found] = source == NONE ? 0 : depth[source] + 1;
            moves[found] = NONE;
            lost[found] = NONE;
            errors[found] = NONE;
            hash[found] = hashOf(begins[found], end);
            begins[found + 1] = end;
            found++;
            makeRoom();
        }

        private int hashOf(int begin, int end) {
            int sum = end - begin;
            for (int i = begin; i < end; i++) {
                sum = sum * 31 + pool[i];
            }
            return sum;
        }

        /** The moves of a state, but for those that nothing asks for. */
        private void goThrough(int k) {
            movesHere = 0;
            lostHere = 0;
            errorsHere = 0;
            Net net = runner.net;
            net.unpack(plan, pool, begins[k]);
            for (int i = 0; i < net.alive && !cut; i++) {
                int what = runner.choose(i);
                if (what != 0) {
                    runner.step(i, what);
                    look(k);
                }
            }
            for (int r = 0; r < plan.routes.size && !cut; r++) {
                if (net.rowSize[r] > 0) {
                    runner.land(r);
                    look(k);
                }
            }
            for (int t = 0; t < net.alive * Net.TIMERS && !cut; t++) {
                if (net.timers[t] != NONE) {
                    runner.ring(t / Net.TIMERS, t % Net.TIMERS);
                    look(k);
                }
            }
        }

        /** The moves that come last: those that nothing asks for. */
        private void stirAll(int k) {
            Net net = runner.net;
            for (int i = 0; i < net.alive; i++) {
                Kind kind = plan.kinds[net.kind[i]];
                for (int row = kind.rowFrom; row < kind.rowTo && !cut; row++) {
                    if (runner.stands(row, Tokens.SPONTANEOUS, i)) {
                        runner.stir(i, row);
                        look(k);
                    }
                }
            }
        }

        /** Looks at what a move of a state led to, then goes back to that state. */
        private void look(int k) {
            looked++;
            lostHere += runner.log.lost;
            errorsHere += runner.log.errors;
            runner.log.clear();
            int end = runner.net.pack(plan, pool, begins[found]);
            if (!isKnown(end)) {
                if (found < limit) {
                    keep(k, movesHere, end);
                } else {
                    cut = true;
                }
            }
            movesHere++;
            runner.net.unpack(plan, pool, begins[k]);
        }

        private boolean isKnown(int end) {
            int begin = begins[found];
            int itsHash = hashOf(begin, end);
            for (int k = 0; k < found; k++) {
                if (hash[k] == itsHash && begins[k + 1] - begins[k] == end - begin && isLike(begins[k], begin, end)) {
                    return true;
                }
            }
            return false;
        }

        private boolean isLike(int other, int begin, int end) {
            for (int i = begin; i < end; i++) {
                if (pool[other + i - begin] != pool[i]) {
                    return false;
                }
            }
            return true;
        }

        int tally(int what) {
            if (what == 16) {
                return found;
            }
            if (what == 17) {
                return cut ? 1 : 0;
            }
            return looked;
        }

        int tell(int k, int what) {
            if (k < 0 || k >= found) {
                return NONE;
            }
            switch (what) {
                case 0:
                    return from[k];
                case 1:
                    return move[k];
                case 2:
                    return depth[k];
                case 3:
                    return moves[k];
                case 4:
                    return lost[k];
                case 5:
                    return errors[k];
                case 6:
                    return pool[begins[k] + 1];
                default:
                    return NONE;
            }
        }

        int earliest(int what, int a, int b) {
            for (int k = 0; k < found; k++) {
                if (answers(k, what, a, b)) {
                    return k;
                }
            }
            return NONE;
        }

        private boolean answers(int k, int what, int a, int b) {
            switch (what) {
                case 0:
                    return moves[k] == 0;
                case 1:
                    return moves[k] == 0 && hasQueued(k);
                case 2:
                    return lost[k] > 0;
                case 3:
                    return errors[k] > 0;
                case 4:
                    return hasInstance(k, a, b);
                default:
                    return false;
            }
        }

        private boolean hasQueued(int k) {
            runner.net.unpack(plan, pool, begins[k]);
            for (int i = 0; i < runner.net.alive; i++) {
                if (runner.net.queued[i] > 0) {
                    return true;
                }
            }
            return false;
        }

        private boolean hasInstance(int k, int type, int state) {
            runner.net.unpack(plan, pool, begins[k]);
            for (int i = 0; i < runner.net.alive; i++) {
                if (runner.net.kind[i] == type && runner.net.at[i] == state) {
                    return true;
                }
            }
            return false;
        }

        boolean restore(int k, Net net) {
            if (k < 0 || k >= found) {
                return false;
            }
            net.unpack(plan, pool, begins[k]);
            net.last = 0;
            return true;
        }
    }

    /** A chart, and how the trace is held against it. */
    private static final class Sheet {
        private static final int LINES = 40;
        private static final int INSTS = 8;
        private static final int POINTS = 6;
        private static final int ROWS = 4;
        private static final int WITHIN = 3;
        private static final int MOST_CHOICES = 1000;
        /** One event more than all lines could ask an inst for. */
        private static final int EVENTS = 2 * LINES + 1;

        private final Tokens tokens;
        private final Names insts = new Names(INSTS);
        private final int[] number = new int[INSTS];
        /** The insts of each line; NONE for env. */
        private final int[] left = new int[LINES];
        private final int[] right = new int[LINES];
        private final int[] signal = new int[LINES];
        private int lines;
        /** The row in which each line stands; NONE outside of all alt and opt. */
        private final int[] within = new int[LINES];
        // Rows are numbered by their alt or opt, which are the points of choice: ROWS for each.
        private final int[] parent = new int[POINTS * ROWS];
        private final int[] options = new int[POINTS];
        private final boolean[] optional = new boolean[POINTS];
        private int points;
        private final int[] chosen = new int[POINTS];
        private final int[] opened = new int[WITHIN];
        private int depth;
        private final long[] events = new long[INSTS * EVENTS];
        private final int[] eventCount = new int[INSTS];
        int answeredLines;
        int answeredChoices;

        Sheet(Tokens tokens) {
            this.tokens = tokens;
        }

        void parse(Names signals) {
            insts.size = 0;
            lines = 0;
            points = 0;
            depth = 0;
            tokens.need(Tokens.CHART);
            tokens.need(Tokens.SEMICOLON);
            for (int i = 0; i < Tokens.MOST && tokens.early == 0 && !isOver(); i++) {
                int k = tokens.seen();
                if (k == Tokens.INST) {
                    inst();
                } else if (k == Tokens.NAME || k == Tokens.ENV) {
                    line(signals);
                } else if (k == Tokens.ALT || k == Tokens.OPT) {
                    openPoint(k);
                } else if (k == Tokens.OR && depth > 0 && !optional[point()]) {
                    anotherRow();
                } else if (k == Tokens.FINISH && depth > 0 && options[point()] > 1) {
                    depth--;
                    tokens.take(k);
                    tokens.need(Tokens.SEMICOLON);
                } else {
                    tokens.fail(Tokens.SYNTAX, tokens.at);
                }
            }
        }

        private boolean isOver() {
            return depth == 0 && tokens.seen() == Tokens.END;
        }

        private int point() {
            return depth > 0 ? opened[depth - 1] / ROWS : 0;
        }

        private void inst() {
            tokens.take(Tokens.INST);
            int token = tokens.at;
            if (tokens.seen() == Tokens.NAME && insts.isFull()) {
                tokens.fail(Tokens.ROOM, token);
            }
            if (insts.find(tokens.value[token]) != NONE) {
                tokens.blame(Tokens.TWICE, tokens.place[token]);
            }
            tokens.need(Tokens.NAME);
            tokens.need(Tokens.EQUAL);
            int value = (int) tokens.value[tokens.at];
            tokens.need(Tokens.NUMBER);
            tokens.need(Tokens.SEMICOLON);
            if (tokens.early == 0) {
                number[insts.size] = value;
                insts.add(tokens.value[token], tokens.place[token]);
            }
        }

        private void line(Names signals) {
            if (lines == LINES) {
                tokens.fail(Tokens.ROOM, tokens.at);
                return;
            }
            left[lines] = end();
            tokens.need(Tokens.ARROW);
            right[lines] = end();
            tokens.need(Tokens.COLON);
            int token = tokens.at;
            signal[lines] = signals.find(tokens.value[token]);
            if (signal[lines] == NONE) {
                tokens.blame(Tokens.UNKNOWN, tokens.place[token]);
            }
            tokens.need(Tokens.NAME);
            tokens.need(Tokens.SEMICOLON);
            within[lines] = depth > 0 ? opened[depth - 1] : NONE;
            lines++;
        }

        /** An end of an arrow: its inst, NONE for env. */
        private int end() {
            if (tokens.take(Tokens.ENV)) {
                return NONE;
            }
            int token = tokens.at;
            int i = insts.find(tokens.value[token]);
            if (i == NONE) {
                tokens.blame(Tokens.UNKNOWN, tokens.place[token]);
            }
            tokens.need(Tokens.NAME);
            return i;
        }

        private void openPoint(int k) {
            if (points == POINTS || depth == WITHIN) {
                tokens.fail(Tokens.ROOM, tokens.at);
                return;
            }
            tokens.take(k);
            parent[points * ROWS] = depth > 0 ? opened[depth - 1] : NONE;
            optional[points] = k == Tokens.OPT;
            options[points] = k == Tokens.OPT ? 2 : 1;
            opened[depth] = points * ROWS;
            points++;
            depth++;
        }

        private void anotherRow() {
            int p = point();
            if (options[p] == ROWS) {
                tokens.fail(Tokens.ROOM, tokens.at);
                return;
            }
            tokens.take(Tokens.OR);
            int row = p * ROWS + options[p];
            parent[row] = parent[p * ROWS];
            opened[depth - 1] = row;
            options[p]++;
        }

        /** Whether the trace keeps the chart by one of the choices that are looked at. */
        boolean compare(Log log) {
            gather(log);
            Arrays.fill(chosen, 0);
            int kept = 0;
            boolean more = true;
            for (int n = 0; n < MOST_CHOICES && more; n++) {
                kept += isKept() ? 1 : 0;
                more = chooseNext();
            }
            answeredLines = lines;
            answeredChoices = kept;
            return kept > 0;
        }

        /** The next choice, the last alt or opt changing first; false behind the last one. */
        private boolean chooseNext() {
            for (int p = points - 1; p >= 0; p--) {
                chosen[p]++;
                if (chosen[p] < options[p]) {
                    return true;
                }
                chosen[p] = 0;
            }
            return false;
        }

        private static long codeOf(int what, int itsSignal, int other) {
            return ((long) what * Plan.SIGNALS + itsSignal) << 32 | other & 0xFFFFFFFFL;
        }

        /** Collects what each inst did, as far as the chart names its signals. */
        private void gather(Log log) {
            int named = 0;
            for (int n = 0; n < lines; n++) {
                named |= 1 << signal[n];
            }
            Arrays.fill(eventCount, 0);
            for (int e = 0; e < log.eventSize; e++) {
                int what = log.eventAt(e, 0);
                int itsSignal = log.eventAt(e, 2);
                boolean counts = (what == Log.SENT || what == Log.TAKEN)
                    && itsSignal < Plan.SIGNALS && (named >> itsSignal & 1) == 1;
                for (int i = 0; i < insts.size && counts; i++) {
                    if (number[i] == log.eventAt(e, 1) && eventCount[i] < EVENTS) {
                        events[i * EVENTS + eventCount[i]] = codeOf(what, itsSignal, log.eventAt(e, 3));
                        eventCount[i]++;
                    }
                }
            }
        }

        private boolean isKept() {
            for (int i = 0; i < insts.size; i++) {
                if (!isKeptBy(i)) {
                    return false;
                }
            }
            return true;
        }

        private boolean isKeptBy(int i) {
            int at = 0;
            for (int n = 0; n < lines; n++) {
                boolean stands = (left[n] == i || right[n] == i) && isChosen(within[n]);
                if (stands && left[n] == i) {
                    if (!did(i, at, codeOf(Log.SENT, signal[n], numberOf(right[n])))) {
                        return false;
                    }
                    at++;
                }
                if (stands && right[n] == i) {
                    if (!did(i, at, codeOf(Log.TAKEN, signal[n], numberOf(left[n])))) {
                        return false;
                    }
                    at++;
                }
            }
            return at == eventCount[i];
        }

        private boolean did(int i, int at, long code) {
            return at < eventCount[i] && events[i * EVENTS + at] == code;
        }

        private int numberOf(int inst) {
            return inst == NONE ? 0 : number[inst];
        }

        private boolean isChosen(int row) {
            int r = row;
            for (int n = 0; n < WITHIN && r != NONE; n++) {
                if (chosen[r / ROWS] != r % ROWS) {
                    return false;
                }
                r = parent[r];
            }
            return true;
        }
    }
}
