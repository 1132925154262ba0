import java.util.Arrays;

/** A lazy language: its text is read, its types are found, its needs are told, and it runs STEP by STEP. */
public final class NeedHouse {
    public static final int NONE = -1;

    private static final int TAPE = 4000;
    private static final int FED = 20;
    private static final int MOST_STEPS = 2000;
    /** Bounds the loops that end by themselves long before it. */
    private static final int MANY = 1000000;

    private final byte[] tape;
    private final Lexemes lexemes;
    private final Datas datas;
    private final Told told;
    private final Tree tree;
    private final Parser parser;
    private final Types types;
    private final Typer typer;
    private final Needs needs;
    private final Machine machine;
    private final Sheet signs;
    private int length;
    private int signsOf;
    private boolean ready;

    public NeedHouse() {
        tape = new byte[TAPE];
        lexemes = new Lexemes();
        datas = new Datas(lexemes);
        told = new Told(lexemes);
        tree = new Tree(lexemes, told, datas);
        parser = new Parser(lexemes, tree, told, datas);
        types = new Types(datas);
        typer = new Typer(lexemes, tree, told, types);
        needs = new Needs(tree, told);
        machine = new Machine(lexemes, tree, told, datas, needs);
        signs = new Sheet(lexemes, 1200);
        length = 0;
        signsOf = NONE;
        ready = false;
    }

    public int feed(int a, int b, int c, int d, int e) {
        if (length + FED > TAPE) {
            return NONE;
        }
        put(a);
        put(b);
        put(c);
        put(d);
        put(e);
        return length;
    }

    private void put(int four) {
        for (int shift = 24; shift >= 0 && length < TAPE; shift -= 8) {
            tape[length] = (byte) (four >> shift);
            length++;
        }
    }

    public int back(int n) {
        if (n < 0 || n > length) {
            return NONE;
        }
        length -= n;
        return length;
    }

    public int read() {
        int used = length;
        length = 0;
        ready = false;
        signsOf = NONE;
        machine.forget();
        lexemes.scan(tape, used);
        try {
            // In the order in which the document looks for faults.
            parser.program();
            datas.check();
            told.check();
            tree.check();
            lexemes.settle();
            checkLimits();
            types.tellConstructors();
            typer.findGroups();
            typer.work();
        } catch (IllegalStateException fault) {
            return lexemes.answer;
        }
        tree.findBuilt();
        needs.find();
        ready = true;
        return 0;
    }

    private void checkLimits() {
        if (lexemes.size > 1500 || told.size > Told.NAMES || told.width[0] > Told.GLOBALS
                || datas.beyondLimits() || tree.beyondLimits()) {
            lexemes.failWhole();
        }
    }

    public int count(int what) {
        if (what < 0 || what > 12) {
            return NONE;
        }
        if (what >= 5) {
            return machine.counted(what);
        }
        if (!ready) {
            return 0;
        }
        switch (what) {
            case 0: return lexemes.size;
            case 1: return told.width[0];
            case 2: return told.size;
            case 3: return datas.cons - Datas.OWN;
            default: return typer.groupsOf[0];
        }
    }

    /** The NAME of DEFINITION i of the PROGRAM, or NONE. */
    private int definition(int i) {
        if (!ready || i < 0 || i >= told.width[0] || i >= Told.GLOBALS) {
            return NONE;
        }
        return told.globals[i];
    }

    public int sign(int i, int k) {
        int name = definition(i);
        if (name < 0) {
            return NONE;
        }
        if (signsOf != i) {
            signs.clear();
            signs.putSymbol(told.symbol[name]);
            signs.put(' ');
            signs.put(':');
            signs.put(':');
            signs.put(' ');
            types.write(signs, name);
            signsOf = i;
        }
        return signs.at(k);
    }

    public int strict(int i, int k) {
        int name = definition(i);
        if (name < 0) {
            return NONE;
        }
        int parameter = told.named(told.row[name], k);
        if (parameter < 0) {
            return NONE;
        }
        return needs.isStrict(parameter) ? 1 : 0;
    }

    public int group(int i) {
        int name = definition(i);
        return name < 0 ? NONE : typer.numberOf[name];
    }

    public void begin() throws IllegalStateException {
        if (!ready) {
            throw new IllegalStateException("there is no program");
        }
        machine.start();
    }

    public int run(int n) throws IllegalArgumentException, IllegalStateException {
        if (n < 0 || n > MOST_STEPS) {
            throw new IllegalArgumentException("not 0 to 2000 STEPS");
        }
        if (!machine.goesOn()) {
            throw new IllegalStateException("no run goes on");
        }
        return machine.go(n);
    }

    public int global(int i, int what) {
        if (definition(i) < 0 || !machine.begun() || what < 0 || what > 2) {
            return NONE;
        }
        return machine.globalIs(i, what);
    }

    public int shown(int k) {
        return machine.text.at(k);
    }

    public int said(int k) {
        return machine.outputAt(k);
    }

    /** A row of signs that keeps the first ones and loses what is too much. */
    private static final class Sheet {
        private final Lexemes lexemes;
        private final byte[] row;
        private int size;

        Sheet(Lexemes lexemes, int room) {
            this.lexemes = lexemes;
            row = new byte[room];
            size = 0;
        }

        void clear() {
            size = 0;
        }

        int size() {
            return size;
        }

        int at(int k) {
            return k < 0 || k >= size ? NONE : row[k];
        }

        void put(int c) {
            if (size < row.length) {
                row[size] = (byte) c;
                size++;
            }
        }

        void putWord(String word) {
            for (int k = 0; k < word.length(); k++) {
                put(word.charAt(k));
            }
        }

        void putSymbol(int symbol) {
            for (int k = 0; k < Lexemes.LONGEST; k++) {
                int c = lexemes.letter(symbol, k);
                if (c == 0) {
                    return;
                }
                put(c);
            }
        }

        void putNumber(int number) {
            long left = number;
            if (left < 0) {
                put('-');
                left = -left;
            }
            for (long power = 1000000000L; power > 0; power /= 10) {
                if (left >= power || power == 1) {
                    put((int) ('0' + left / power % 10));
                }
            }
        }
    }

    /** The LEXEMES of the text, their names as numbers (symbols), and the fault that a reading ends with. */
    private static final class Lexemes {
        static final int END = 0;
        static final int BAD = 1;
        static final int NAME = 2;
        static final int CON = 3;
        static final int NUMBER = 4;
        static final int DATA = 5;
        static final int LET = 6;
        static final int IN = 7;
        static final int IF = 8;
        static final int THEN = 9;
        static final int ELSE = 10;
        static final int CASE = 11;
        static final int OF = 12;
        static final int ROUND = 13;
        static final int ROUND_END = 14;
        static final int SQUARE = 15;
        static final int SQUARE_END = 16;
        static final int COMMA = 17;
        static final int SEMICOLON = 18;
        static final int IS = 19;
        static final int BAR = 20;
        static final int LAMBDA = 21;
        static final int ANY = 22;
        static final int COLON = 23;
        static final int PLUS = 24;
        static final int MINUS = 25;
        static final int TIMES = 26;
        static final int OVER = 27;
        static final int REST = 28;
        static final int LESS = 29;
        static final int GREATER = 30;
        static final int ARROW = 31;
        static final int EQUAL = 32;
        static final int UNEQUAL = 33;
        static final int AT_MOST = 34;
        static final int AT_LEAST = 35;
        static final int AND = 36;
        static final int OR = 37;

        static final int SAY = 8;
        static final int MAIN = 9;
        static final int INT = 10;
        static final int BOOL = 11;
        static final int FALSE = 12;
        static final int TRUE = 13;
        /** Each WORD's symbol is its kind less DATA; then come the names that are there from the start. */
        private static final String KNOWN = "data let in if then else case of say main Int Bool False True ";
        private static final int WORDS = 8;
        private static final String SINGLES = "()[],;=|\\_:+-*/%<>";
        private static final String DOUBLES = "->==/=<=>=&&||";

        static final int LONGEST = 12;
        private static final long GREATEST = 2147483647L;
        static final int SYMBOLS = 2100;
        static final int ROOM = TAPE + 4;
        private static final int TABLE_BITS = 13;
        private static final int TABLE = 1 << TABLE_BITS;

        final int[] kind = new int[ROOM];
        final int[] line = new int[ROOM];
        final int[] column = new int[ROOM];
        final int[] value = new int[ROOM];
        private final long[] head = new long[SYMBOLS];
        private final long[] tail = new long[SYMBOLS];
        private final int[] table = new int[TABLE];
        int size;
        int answer;
        private int symbols;
        private int faultKind;
        private int faultToken;

        void scan(byte[] tape, int length) {
            size = 0;
            faultKind = 0;
            learnKnown();
            int at = 0;
            int row = 1;
            int start = 0;
            for (int n = 0; n <= TAPE && at < length; n++) {
                int c = tape[at];
                if (c == '\n') {
                    at++;
                    row++;
                    start = at;
                } else if (c == ' ') {
                    at++;
                } else if (isPair(tape, at, length, '-', '-')) {
                    at = lineEnd(tape, at, length);
                } else {
                    line[size] = row;
                    column[size] = at - start;
                    at = lexeme(tape, at, length);
                    size++;
                    if (kind[size - 1] == BAD) {
                        at = length;
                    }
                }
            }
            kind[size] = END;
            line[size] = row;
            column[size] = 0;
            value[size] = 0;
        }

        private static boolean isPair(byte[] tape, int at, int length, int c, int d) {
            return at + 1 < length && tape[at] == c && tape[at + 1] == d;
        }

        private static int lineEnd(byte[] tape, int from, int length) {
            int at = from;
            while (at < length && tape[at] != '\n') {
                at++;
            }
            return at;
        }

        /** Puts down the LEXEME that begins here; answers where it ends. */
        private int lexeme(byte[] tape, int at, int length) {
            int c = tape[at];
            value[size] = 0;
            if (isSmall(c) || isGreat(c)) {
                return word(tape, at, length);
            }
            if (isDigit(c)) {
                return number(tape, at, length);
            }
            for (int k = 0; 2 * k + 1 < DOUBLES.length(); k++) {
                if (isPair(tape, at, length, DOUBLES.charAt(2 * k), DOUBLES.charAt(2 * k + 1))) {
                    kind[size] = ARROW + k;
                    return at + 2;
                }
            }
            int single = SINGLES.indexOf((char) (c & 255));
            kind[size] = single < 0 ? BAD : ROUND + single;
            return at + 1;
        }

        private int word(byte[] tape, int from, int length) {
            long first = 0;
            long second = 0;
            int at = from;
            while (at < length && isInWord(tape[at])) {
                int k = at - from;
                if (k < 8) {
                    first |= (long) tape[at] << (56 - 8 * k);
                } else if (k < LONGEST) {
                    second |= (long) tape[at] << (56 - 8 * (k - 8));
                }
                at++;
            }
            if (at - from > LONGEST) {
                kind[size] = BAD;
                return at;
            }
            int symbol = symbolOf(first, second);
            value[size] = symbol;
            if (isGreat(tape[from])) {
                kind[size] = CON;
            } else {
                kind[size] = symbol < WORDS ? DATA + symbol : NAME;
            }
            return at;
        }

        private int number(byte[] tape, int from, int length) {
            long number = 0;
            int at = from;
            while (at < length && isDigit(tape[at])) {
                if (at - from < 10) {
                    number = number * 10 + (tape[at] - '0');
                }
                at++;
            }
            boolean good = at - from <= 10 && number <= GREATEST;
            kind[size] = good ? NUMBER : BAD;
            value[size] = good ? (int) number : 0;
            return at;
        }

        private static boolean isSmall(int c) {
            return c >= 'a' && c <= 'z';
        }

        private static boolean isGreat(int c) {
            return c >= 'A' && c <= 'Z';
        }

        private static boolean isDigit(int c) {
            return c >= '0' && c <= '9';
        }

        private static boolean isInWord(int c) {
            return isSmall(c) || isGreat(c) || isDigit(c) || c == '\'';
        }

        private void learnKnown() {
            Arrays.fill(table, 0);
            symbols = 0;
            long letters = 0;
            int k = 0;
            for (int at = 0; at < KNOWN.length(); at++) {
                char c = KNOWN.charAt(at);
                if (c == ' ') {
                    symbolOf(letters, 0);
                    letters = 0;
                    k = 0;
                } else {
                    letters |= (long) c << (56 - 8 * k);
                    k++;
                }
            }
        }

        private int symbolOf(long first, long second) {
            long mixed = (first * 31 + second) * 0x9E3779B97F4A7C15L;
            int from = (int) (mixed >>> (64 - TABLE_BITS));
            for (int n = 0; n < TABLE; n++) {
                int slot = (from + n) & (TABLE - 1);
                int symbol = table[slot] - 1;
                if (symbol < 0) {
                    return newSymbol(slot, first, second);
                }
                if (head[symbol] == first && tail[symbol] == second) {
                    return symbol;
                }
            }
            return 0;
        }

        private int newSymbol(int slot, long first, long second) {
            if (symbols >= SYMBOLS) {
                return 0;
            }
            head[symbols] = first;
            tail[symbols] = second;
            symbols++;
            table[slot] = symbols;
            return symbols - 1;
        }

        /** Letter k of a symbol; 0 behind its last one. */
        int letter(int symbol, int k) {
            if (symbol < 0 || symbol >= symbols || k < 0 || k >= LONGEST) {
                return 0;
            }
            long letters = k < 8 ? head[symbol] : tail[symbol];
            return (int) (letters >>> (56 - 8 * (k & 7))) & 255;
        }

        void fail(int faultOf, int token) {
            answer = faultOf + 16 * line[token];
            throw new IllegalStateException("a fault at a token");
        }

        void failWhole() {
            answer = 8;
            throw new IllegalStateException("too much of something");
        }

        /** Of faults of names the one at the first token counts, of one token the least. */
        void note(int faultOf, int token) {
            if (faultKind == 0 || token < faultToken || token == faultToken && faultOf < faultKind) {
                faultKind = faultOf;
                faultToken = token;
            }
        }

        void settle() {
            if (faultKind != 0) {
                fail(faultKind, faultToken);
            }
        }
    }

    /** Turns LEXEMES into what the grammar sees: LEXEMES, and the ends of ITEMS and BLOCKS ahead of them. */
    private static final class Layout {
        static final int ITEM_END = 38;
        static final int BLOCK_END = 39;
        private static final int ROOM = Lexemes.ROOM * 2;

        private final Lexemes lexemes;
        /** From the outermost on: a BLOCK's column, or less the kind of a LEXEME that is OPEN. */
        private final int[] stack = new int[ROOM];
        private int depth;
        private int endsAhead;
        private int endsBehind;
        private boolean itemEnds;
        /** A 3 at this token, which counts only if no 2 is found at it. */
        private boolean misplaced;
        int token;
        int now;

        Layout(Lexemes lexemes) {
            this.lexemes = lexemes;
        }

        /** Comes to the first token. */
        void open() {
            depth = 0;
            token = NONE;
            now = Lexemes.NAME;
            misplaced = false;
            advance();
        }

        void advance() {
            if (now < ITEM_END) {
                if (misplaced) {
                    refuse(3);
                }
                if (now == Lexemes.END) {
                    return;
                }
                token++;
                arrive();
            }
            if (endsAhead > 0) {
                endsAhead--;
                now = BLOCK_END;
            } else if (itemEnds) {
                itemEnds = false;
                now = ITEM_END;
            } else if (endsBehind > 0) {
                endsBehind--;
                now = BLOCK_END;
            } else {
                now = lexemes.kind[token];
            }
        }

        /** A fault at this token. */
        void refuse(int kind) {
            lexemes.answer = (kind > 3 && misplaced ? 3 : kind) + 16 * lexemes.line[token];
            throw new IllegalStateException("a token that can't stand there");
        }

        /** Finds what ends ahead of a token, and what begins with it. */
        private void arrive() {
            endsAhead = 0;
            endsBehind = 0;
            itemEnds = false;
            misplaced = false;
            int kind = lexemes.kind[token];
            int before = token > 0 ? lexemes.kind[token - 1] : Lexemes.END;
            boolean begins = before == Lexemes.OF || before == Lexemes.LET;
            if (kind == Lexemes.BAD) {
                refuse(1);
            }
            if (begins && kind == Lexemes.END) {
                refuse(2);
            }
            if (begins) {
                misplaced = lexemes.column[token] <= stack[lastBlock()];
            }
            if (begins || token == 0) {
                push(lexemes.column[token]);
            } else if (kind != Lexemes.END && lexemes.line[token] != lexemes.line[token - 1] && !beginLine()) {
                refuse(2);
            }
            if (!close(kind, closes(kind))) {
                refuse(2);
            }
            if (opens(kind)) {
                push(-kind);
            }
        }

        private void push(int what) {
            if (depth < ROOM) {
                stack[depth] = what;
                depth++;
            }
        }

        /**
         * Ends the BLOCKS whose column is greater, then an ITEM if the column is that of the last one left; false if
         * one of these has something OPEN within it.
         */
        private boolean beginLine() {
            int column = lexemes.column[token];
            int at = depth - 1;
            for (; at > 0 && (stack[at] < 0 || column < stack[at]); at--) {
                if (stack[at] >= 0) {
                    if (at != depth - 1) {
                        return false;
                    }
                    depth = at;
                    endsAhead++;
                }
            }
            misplaced = column < stack[at];
            itemEnds = column == stack[at];
            return !itemEnds || at == depth - 1;
        }

        private int lastBlock() {
            int at = depth - 1;
            while (at > 0 && stack[at] < 0) {
                at--;
            }
            return at;
        }

        /** Ends what a token ends by what it is; closed is what it closes (or END). False if it can't stand there. */
        private boolean close(int kind, int closed) {
            int open = depth - 1;
            while (open > 0 && stack[open] >= 0) {
                open--;
            }
            int opener = open > 0 ? -stack[open] : Lexemes.END;
            if (kind == Lexemes.SEMICOLON) {
                return stack[depth - 1] >= 0;
            }
            if (kind == Lexemes.COMMA) {
                endsBehind = depth - 1 - open;
                depth = open + 1;
                return opener == Lexemes.ROUND || opener == Lexemes.SQUARE;
            }
            if (kind == Lexemes.END || closed != Lexemes.END) {
                endsBehind = depth - 1 - open;
                depth = Math.max(open, 1);
                return opener == closed;
            }
            return true;
        }

        private static int closes(int kind) {
            switch (kind) {
                case Lexemes.ROUND_END: return Lexemes.ROUND;
                case Lexemes.SQUARE_END: return Lexemes.SQUARE;
                case Lexemes.THEN: return Lexemes.IF;
                case Lexemes.ELSE: return Lexemes.THEN;
                case Lexemes.OF: return Lexemes.CASE;
                case Lexemes.IN: return Lexemes.LET;
                default: return Lexemes.END;
            }
        }

        private static boolean opens(int kind) {
            return kind == Lexemes.ROUND || kind == Lexemes.SQUARE || kind == Lexemes.IF || kind == Lexemes.THEN
                    || kind == Lexemes.CASE || kind == Lexemes.LET;
        }
    }

    /** The NAMES that are told, and the SCOPES (BLOCKS and rows of names) in which they are. */
    private static final class Told {
        static final int NAMES = 300;
        static final int GLOBALS = 60;
        /** What a NAME means that means the say that is there. */
        static final int SAY = -2;
        private static final int ROOM = 2100;

        private final Lexemes lexemes;
        final int[] symbol = new int[ROOM];
        final int[] token = new int[ROOM];
        final int[] scope = new int[ROOM];
        /** Which one of its scope it is, from 0 on. */
        final int[] place = new int[ROOM];
        final int[] next = new int[ROOM];
        /** Of a DEFINITION: the row of its PARAMETERS, its E, and the LAMBDA of both (NONE without PARAMETERS). */
        final int[] row = new int[ROOM];
        final int[] body = new int[ROOM];
        final int[] maker = new int[ROOM];
        final int[] parent = new int[ROOM];
        /** Of a row of PARAMETERS: the DEFINITION. */
        final int[] owner = new int[ROOM];
        final int[] first = new int[ROOM];
        private final int[] last = new int[ROOM];
        /** How many things stand in it, _ too. */
        final int[] width = new int[ROOM];
        final int[] globals = new int[GLOBALS];
        private final int[] mark = new int[Lexemes.SYMBOLS];
        int size;
        int scopes;

        Told(Lexemes lexemes) {
            this.lexemes = lexemes;
        }

        void clear() {
            size = 0;
            scopes = 0;
        }

        int openScope(int around, int definition) {
            if (scopes >= ROOM) {
                lexemes.failWhole();
            }
            parent[scopes] = around;
            owner[scopes] = definition;
            first[scopes] = NONE;
            last[scopes] = NONE;
            width[scopes] = 0;
            scopes++;
            return scopes - 1;
        }

        int tell(int within, int at) {
            if (size >= ROOM) {
                lexemes.failWhole();
            }
            int name = size;
            size++;
            symbol[name] = lexemes.value[at];
            token[name] = at;
            scope[name] = within;
            place[name] = width[within];
            next[name] = NONE;
            row[name] = NONE;
            body[name] = NONE;
            maker[name] = NONE;
            if (last[within] < 0) {
                first[within] = name;
            } else {
                next[last[within]] = name;
            }
            last[within] = name;
            if (within == 0 && width[0] < GLOBALS) {
                globals[width[0]] = name;
            }
            width[within]++;
            return name;
        }

        void tellNothing(int within) {
            width[within]++;
        }

        /** What a symbol means in a scope: the nearest NAME, SAY, or NONE. */
        int meaning(int within, int wanted) {
            int at = within;
            for (int n = 0; n < ROOM && at >= 0; n++) {
                for (int name = first[at]; name >= 0; name = next[name]) {
                    if (symbol[name] == wanted) {
                        return name;
                    }
                }
                at = parent[at];
            }
            return wanted == Lexemes.SAY ? SAY : NONE;
        }

        /** The NAME at a place of a row, or NONE. */
        int named(int within, int at) {
            if (within < 0) {
                return NONE;
            }
            for (int name = first[within]; name >= 0; name = next[name]) {
                if (place[name] == at) {
                    return name;
                }
            }
            return NONE;
        }

        boolean isDefinition(int name) {
            return name >= 0 && row[name] >= 0;
        }

        boolean isLocal(int name) {
            return name >= 0 && scope[name] != 0;
        }

        void check() {
            Arrays.fill(mark, NONE);
            for (int at = 0; at < scopes; at++) {
                for (int name = first[at]; name >= 0; name = next[name]) {
                    boolean known = at == 0 && symbol[name] == Lexemes.SAY;
                    if (known || mark[symbol[name]] == at) {
                        lexemes.note(4, token[name]);
                    }
                    mark[symbol[name]] = at;
                }
            }
            if (mainOf() < 0) {
                lexemes.note(5, lexemes.size);
            }
        }

        int mainOf() {
            for (int name = first[0]; name >= 0; name = next[name]) {
                if (symbol[name] == Lexemes.MAIN) {
                    return name;
                }
            }
            return NONE;
        }
    }

    /** What DATA tell: types, constructors, and their fields' types as rows of codes, the whole ahead of its parts. */
    private static final class Datas {
        static final int FALSE = 0;
        static final int TRUE = 1;
        static final int EMPTY = 2;
        static final int CONS = 3;
        static final int PAIR = 4;
        /** How many constructors are there without DATA. */
        static final int OWN = 5;
        static final int MOST_DATA = 30;
        static final int MOST_CONS = 60;
        /** Codes that were not looked up yet. */
        private static final int RAW_NAME = -1;
        private static final int RAW_CON = -2;
        private static final int ROOM = 2100;
        private static final int DATA_ROOM = 600;
        private static final int CODE_ROOM = 4100;

        private final Lexemes lexemes;
        private final int[] dataToken = new int[DATA_ROOM];
        private final int[] firstName = new int[DATA_ROOM];
        private final int[] nameCount = new int[DATA_ROOM];
        private final int[] nameToken = new int[ROOM];
        private final int[] conToken = new int[ROOM];
        final int[] conData = new int[ROOM];
        final int[] conFields = new int[ROOM];
        final int[] conCode = new int[ROOM];
        final int[] conCodes = new int[ROOM];
        final int[] code = new int[CODE_ROOM];
        private final int[] codeToken = new int[CODE_ROOM];
        private final int[] codeParts = new int[CODE_ROOM];
        /** What a symbol is as a type, as a constructor, and a mark. */
        private final int[] typeOf = new int[Lexemes.SYMBOLS];
        private final int[] conOf = new int[Lexemes.SYMBOLS];
        private final int[] mark = new int[Lexemes.SYMBOLS];
        int size;
        int cons;
        int codes;
        private int names;

        Datas(Lexemes lexemes) {
            this.lexemes = lexemes;
            conFields[CONS] = 2;
            conFields[PAIR] = 2;
            cons = OWN;
        }

        void clear() {
            size = 0;
            cons = OWN;
            codes = 0;
            names = 0;
        }

        void tellData(int token) {
            if (size >= DATA_ROOM) {
                lexemes.failWhole();
            }
            dataToken[size] = token;
            firstName[size] = names;
            nameCount[size] = 0;
            size++;
        }

        /** A NAME of the DATA that was told last. */
        void tellName(int token) {
            if (names >= ROOM || size < 1) {
                lexemes.failWhole();
            }
            nameToken[names] = token;
            names++;
            nameCount[size - 1]++;
        }

        void tellCon(int token) {
            if (cons >= ROOM) {
                lexemes.failWhole();
            }
            conToken[cons] = token;
            conData[cons] = size - 1;
            conFields[cons] = 0;
            conCode[cons] = codes;
            conCodes[cons] = 0;
            cons++;
        }

        /** The codes since the last field are one more field of the constructor that was told last. */
        void tellField() {
            conFields[cons - 1]++;
            conCodes[cons - 1] = codes - conCode[cons - 1];
        }

        void addCode(int kind, int token) {
            insertCode(codes, kind);
            codeToken[codes - 1] = token;
        }

        void addName(int token) {
            addCode(RAW_NAME, token);
        }

        void addCon(int token) {
            addCode(RAW_CON, token);
        }

        void setParts(int at, int parts) {
            if (at >= 0 && at < codes) {
                codeParts[at] = parts;
            }
        }

        /** What stands behind a type (->, the comma of a pair) tells what the type is a part of. */
        void insertCode(int at, int kind) {
            if (codes >= CODE_ROOM) {
                lexemes.failWhole();
            }
            for (int k = codes; k > at && k > 0; k--) {
                code[k] = code[k - 1];
                codeToken[k] = codeToken[k - 1];
                codeParts[k] = codeParts[k - 1];
            }
            code[at] = kind;
            codeToken[at] = NONE;
            codeParts[at] = 0;
            codes++;
        }

        void check() {
            Arrays.fill(typeOf, NONE);
            Arrays.fill(conOf, NONE);
            Arrays.fill(mark, NONE);
            typeOf[Lexemes.INT] = Types.INT;
            typeOf[Lexemes.BOOL] = Types.BOOL;
            conOf[Lexemes.FALSE] = FALSE;
            conOf[Lexemes.TRUE] = TRUE;
            for (int data = 0; data < size; data++) {
                checkData(data);
            }
            for (int con = OWN; con < cons; con++) {
                int symbol = lexemes.value[conToken[con]];
                if (conOf[symbol] >= 0) {
                    lexemes.note(4, conToken[con]);
                } else {
                    conOf[symbol] = con;
                }
            }
            for (int con = OWN; con < cons; con++) {
                checkFields(con);
            }
        }

        private void checkData(int data) {
            int symbol = lexemes.value[dataToken[data]];
            if (typeOf[symbol] >= 0) {
                lexemes.note(4, dataToken[data]);
            } else {
                typeOf[symbol] = Types.DATA + data;
            }
            for (int k = 0; k < nameCount[data]; k++) {
                int token = nameToken[firstName[data] + k];
                int name = lexemes.value[token];
                if (mark[name] == data) {
                    lexemes.note(4, token);
                }
                mark[name] = data;
            }
        }

        private void checkFields(int con) {
            for (int k = 0; k < conCodes[con]; k++) {
                int at = conCode[con] + k;
                if (code[at] == RAW_NAME) {
                    lookUpName(at, conData[con]);
                } else if (code[at] == RAW_CON) {
                    lookUpType(at);
                }
            }
        }

        private void lookUpName(int at, int data) {
            int symbol = lexemes.value[codeToken[at]];
            for (int k = 0; k < nameCount[data]; k++) {
                if (lexemes.value[nameToken[firstName[data] + k]] == symbol) {
                    code[at] = Types.FREE + k;
                    return;
                }
            }
            lexemes.note(5, codeToken[at]);
        }

        private void lookUpType(int at) {
            int type = typeOf[lexemes.value[codeToken[at]]];
            if (type < 0) {
                lexemes.note(5, codeToken[at]);
                return;
            }
            if (codeParts[at] != partsOf(type)) {
                lexemes.note(6, codeToken[at]);
            }
            code[at] = type;
        }

        /** How many parts a type of a kind has. */
        int partsOf(int type) {
            if (type == Types.FUN || type == Types.PAIR) {
                return 2;
            }
            if (type == Types.LIST) {
                return 1;
            }
            int data = type - Types.DATA;
            return data >= 0 && data < size ? nameCount[data] : 0;
        }

        int conNamed(int symbol) {
            return conOf[symbol];
        }

        int symbolOfCon(int con) {
            if (con < OWN) {
                return con == TRUE ? Lexemes.TRUE : Lexemes.FALSE;
            }
            return con < cons ? lexemes.value[conToken[con]] : NONE;
        }

        int symbolOfData(int data) {
            return data >= 0 && data < size ? lexemes.value[dataToken[data]] : NONE;
        }

        boolean beyondLimits() {
            if (size > MOST_DATA || cons - OWN > MOST_CONS) {
                return true;
            }
            for (int data = 0; data < size; data++) {
                if (nameCount[data] > 8) {
                    return true;
                }
            }
            for (int con = OWN; con < cons; con++) {
                if (conFields[con] > 6 || conCodes[con] > 40) {
                    return true;
                }
            }
            return false;
        }
    }

    /** The Es of the program as nodes, each behind its parts, and the ITEMS of its cases. */
    private static final class Tree {
        static final int NUMBER = 0;
        static final int NAME = 1;
        static final int CON = 2;
        static final int LAMBDA = 3;
        static final int LET = 4;
        static final int IF = 5;
        static final int CASE = 6;
        /** What of an if or a case waits for its first E: the branches. */
        static final int REST = 7;
        static final int LOGIC = 8;
        static final int SUM = 9;
        static final int ROW = 10;
        static final int PAIR = 11;
        static final int LIST = 12;
        static final int CALL = 13;
        /** A CALL of a constructor with all its ARGUMENTS. */
        static final int BUILT = 14;

        static final int ANY_VALUE = 0;
        static final int ANY_NUMBER = 1;
        static final int ANY_CON = 2;
        static final int NODES = 5600;
        private static final int ROOM = Lexemes.ROOM;

        private final Lexemes lexemes;
        private final Told told;
        private final Datas datas;
        final int[] kind = new int[NODES];
        /** The token at which faults of its type are: its first one, or that of brackets around it. */
        final int[] first = new int[NODES];
        /**
         * NUMBER: a it. NAME: a its meaning, b its token, c its scope. CON: a it, b its token. LAMBDA: a its E, b its
         * row. LET: a its E, b its scope. IF, CASE: a the first E, b the REST. REST: a and b the branches, or a the
         * first ITEM and b NONE. LOGIC, SUM: a and b the operands, c the sign. ROW, PAIR, LIST, BUILT: a the
         * constructor. CALL: a the first ATOM. These five: b where their parts begin, c how many there are.
         */
        final int[] a = new int[NODES];
        final int[] b = new int[NODES];
        final int[] c = new int[NODES];
        final int[] part = new int[ROOM];
        final int[] partOwner = new int[ROOM];
        final int[] itemKind = new int[ROOM];
        final int[] itemToken = new int[ROOM];
        /** The constructor, or the NUMBER, that fits. */
        final int[] itemWant = new int[ROOM];
        final int[] itemRow = new int[ROOM];
        final int[] itemBody = new int[ROOM];
        final int[] itemNext = new int[ROOM];
        final int[] itemOwner = new int[ROOM];
        int size;
        private int parts;
        private int items;

        Tree(Lexemes lexemes, Told told, Datas datas) {
            this.lexemes = lexemes;
            this.told = told;
            this.datas = datas;
        }

        void clear() {
            size = 0;
            parts = 0;
            items = 0;
        }

        int add(int what, int token, int one, int two, int three) {
            if (size >= NODES) {
                lexemes.failWhole();
            }
            kind[size] = what;
            first[size] = token;
            a[size] = one;
            b[size] = two;
            c[size] = three;
            size++;
            return size - 1;
        }

        /** A node with parts, which are those of a row from a place on. */
        int addWhole(int what, int token, int one, int[] row, int from, int many) {
            int node = add(what, token, one, parts, many);
            for (int k = 0; k < many; k++) {
                if (parts >= ROOM) {
                    lexemes.failWhole();
                }
                part[parts] = row[from + k];
                partOwner[parts] = node;
                parts++;
            }
            return node;
        }

        int addItem(int what, int token, int want, int row) {
            if (items >= ROOM) {
                lexemes.failWhole();
            }
            itemKind[items] = what;
            itemToken[items] = token;
            itemWant[items] = want;
            itemRow[items] = row;
            itemBody[items] = NONE;
            itemNext[items] = NONE;
            itemOwner[items] = NONE;
            items++;
            return items - 1;
        }

        void check() {
            for (int node = 0; node < size; node++) {
                if (kind[node] == NAME) {
                    a[node] = told.meaning(c[node], lexemes.value[b[node]]);
                    if (a[node] == NONE) {
                        lexemes.note(5, b[node]);
                    }
                } else if (kind[node] == CON && b[node] >= 0) {
                    a[node] = conAt(b[node]);
                }
            }
            for (int item = 0; item < items; item++) {
                int token = itemToken[item];
                if (itemKind[item] == ANY_CON && lexemes.kind[token] == Lexemes.CON) {
                    int con = conAt(token);
                    if (con >= 0 && datas.conFields[con] != told.width[itemRow[item]]) {
                        lexemes.note(6, token);
                    }
                    itemWant[item] = con;
                }
            }
        }

        private int conAt(int token) {
            int con = datas.conNamed(lexemes.value[token]);
            if (con < 0) {
                lexemes.note(5, token);
            }
            return con;
        }

        boolean beyondLimits() {
            for (int node = 0; node < size; node++) {
                if ((kind[node] == CALL || kind[node] == LIST) && c[node] > 12) {
                    return true;
                }
                if (kind[node] == LAMBDA && told.width[b[node]] > 8) {
                    return true;
                }
            }
            return false;
        }

        void findBuilt() {
            for (int node = 0; node < size; node++) {
                if (kind[node] == CALL && kind[a[node]] == CON && c[node] == datas.conFields[a[a[node]]]) {
                    kind[node] = BUILT;
                    a[node] = a[a[node]];
                }
            }
        }

        /** Whether it is a constructor with all its ARGUMENTS, written in any way. */
        boolean isBuilt(int node) {
            int what = kind[node];
            return what == ROW || what == PAIR || what == LIST || what == BUILT;
        }
    }

    /** The grammar: makes the tree, the told names and the DATA of the LEXEMES, by way of their layout. */
    private static final class Parser {
        private static final int DEEPEST = 40;
        private static final int OPERANDS = 20;
        private static final int TEST = 3;
        private static final int ROW = 4;
        private static final int SUM = 5;
        private static final int LEVELS = 8;
        /** How tightly each kind of LEXEME (or end) ties its operands; 0 for what is no sign between operands. */
        private static final int[] LEVEL = {
            0, 0, 0, 0, 0, 0, 0, 0, 0, 0, 0, 0, 0, 0, 0, 0, 0, 0, 0, 0,
            0, 0, 0, 4, 5, 5, 6, 6, 6, 3, 3, 0, 3, 3, 3, 3, 2, 1, 0, 0};

        private final Lexemes lexemes;
        private final Layout layout;
        private final Tree tree;
        private final Told told;
        private final Datas datas;
        /** Operands and parts of what was not closed yet. */
        private final int[] held = new int[Lexemes.ROOM];
        private final int[] signs = new int[Lexemes.ROOM];
        /** For each depth of Es how many operands each level has. */
        private final int[] operands = new int[(DEEPEST + 2) * LEVELS];
        private int heldSize;
        private int signSize;

        Parser(Lexemes lexemes, Tree tree, Told told, Datas datas) {
            this.lexemes = lexemes;
            this.tree = tree;
            this.told = told;
            this.datas = datas;
            layout = new Layout(lexemes);
        }

        void program() {
            tree.clear();
            told.clear();
            datas.clear();
            heldSize = 0;
            signSize = 0;
            told.openScope(NONE, NONE);
            layout.open();
            for (int n = 0; n < MANY && layout.now != Lexemes.END; n++) {
                if (layout.now == Lexemes.DATA) {
                    data();
                } else if (layout.now == Lexemes.NAME) {
                    definition(0, 1);
                }
                if (layout.now != Lexemes.END) {
                    endItem();
                }
            }
        }

        private void endItem() {
            if (layout.now != Lexemes.SEMICOLON && layout.now != Layout.ITEM_END) {
                layout.refuse(2);
            }
            layout.advance();
        }

        private void expect(int kind) {
            if (layout.now != kind) {
                layout.refuse(2);
            }
            layout.advance();
        }

        private void data() {
            layout.advance();
            int token = layout.token;
            expect(Lexemes.CON);
            datas.tellData(token);
            for (int n = 0; n < MANY && layout.now == Lexemes.NAME; n++) {
                datas.tellName(layout.token);
                layout.advance();
            }
            boolean more = layout.now == Lexemes.IS;
            if (!more) {
                layout.refuse(2);
            }
            for (int n = 0; n < MANY && more; n++) {
                layout.advance();
                token = layout.token;
                expect(Lexemes.CON);
                datas.tellCon(token);
                for (int k = 0; k < MANY && beginsTypeAtom(); k++) {
                    typeAtom(0);
                    datas.tellField();
                }
                more = layout.now == Lexemes.BAR;
            }
        }

        private boolean beginsTypeAtom() {
            int now = layout.now;
            return now == Lexemes.CON || now == Lexemes.NAME || now == Lexemes.ROUND || now == Lexemes.SQUARE;
        }

        private void type(int depth) {
            if (!beginsTypeAtom()) {
                layout.refuse(2);
            }
            if (depth > DEEPEST) {
                layout.refuse(8);
            }
            int from = datas.codes;
            if (layout.now == Lexemes.CON) {
                typeCall(depth);
            } else {
                typeAtom(depth);
            }
            if (layout.now == Lexemes.ARROW) {
                layout.advance();
                datas.insertCode(from, Types.FUN);
                type(depth + 1);
            }
        }

        private void typeCall(int depth) {
            int from = datas.codes;
            datas.addCon(layout.token);
            layout.advance();
            int atoms = 0;
            for (; atoms < MANY && beginsTypeAtom(); atoms++) {
                typeAtom(depth);
            }
            datas.setParts(from, atoms);
        }

        private void typeAtom(int depth) {
            int from = datas.codes;
            int now = layout.now;
            if (now == Lexemes.CON) {
                datas.addCon(layout.token);
            } else if (now == Lexemes.NAME) {
                datas.addName(layout.token);
            } else if (now == Lexemes.SQUARE) {
                datas.addCode(Types.LIST, layout.token);
            } else if (now != Lexemes.ROUND) {
                layout.refuse(2);
            }
            layout.advance();
            if (now == Lexemes.SQUARE) {
                type(depth + 1);
                expect(Lexemes.SQUARE_END);
            } else if (now == Lexemes.ROUND) {
                type(depth + 1);
                if (layout.now == Lexemes.COMMA) {
                    layout.advance();
                    datas.insertCode(from, Types.PAIR);
                    type(depth + 1);
                }
                expect(Lexemes.ROUND_END);
            }
        }

        private void definition(int scope, int depth) {
            int token = layout.token;
            int name = told.tell(scope, token);
            layout.advance();
            int row = told.openScope(scope, name);
            names(row);
            expect(Lexemes.IS);
            int body = expression(row, depth);
            told.row[name] = row;
            told.body[name] = body;
            if (told.width[row] > 0) {
                told.maker[name] = tree.add(Tree.LAMBDA, token, body, row, 0);
            }
        }

        private void names(int row) {
            for (int n = 0; n < MANY && layout.now == Lexemes.NAME; n++) {
                told.tell(row, layout.token);
                layout.advance();
            }
        }

        private boolean beginsAtom() {
            int now = layout.now;
            return beginsTypeAtom() || now == Lexemes.NUMBER;
        }

        private int expression(int scope, int depth) {
            int now = layout.now;
            boolean worded = now == Lexemes.LAMBDA || now == Lexemes.LET || now == Lexemes.IF || now == Lexemes.CASE;
            if (!worded && !beginsAtom()) {
                layout.refuse(2);
            }
            if (depth > DEEPEST) {
                layout.refuse(8);
            }
            switch (now) {
                case Lexemes.LAMBDA: return lambda(scope, depth);
                case Lexemes.LET: return let(scope, depth);
                case Lexemes.IF: return choice(scope, depth);
                case Lexemes.CASE: return cases(scope, depth);
                default: return chain(scope, depth);
            }
        }

        private int lambda(int scope, int depth) {
            int token = layout.token;
            layout.advance();
            int row = told.openScope(scope, NONE);
            if (layout.now != Lexemes.NAME) {
                layout.refuse(2);
            }
            names(row);
            expect(Lexemes.ARROW);
            int body = expression(row, depth + 1);
            return tree.add(Tree.LAMBDA, token, body, row, 0);
        }

        private int let(int scope, int depth) {
            int token = layout.token;
            layout.advance();
            int block = told.openScope(scope, NONE);
            for (int n = 0; n < MANY && layout.now != Layout.BLOCK_END; n++) {
                if (layout.now == Lexemes.NAME) {
                    definition(block, depth + 1);
                }
                if (layout.now != Layout.BLOCK_END) {
                    endItem();
                }
            }
            if (told.width[block] < 1) {
                layout.refuse(2);
            }
            expect(Layout.BLOCK_END);
            expect(Lexemes.IN);
            int body = expression(block, depth + 1);
            return tree.add(Tree.LET, token, body, block, 0);
        }

        private int choice(int scope, int depth) {
            int token = layout.token;
            layout.advance();
            int condition = expression(scope, depth + 1);
            expect(Lexemes.THEN);
            int one = expression(scope, depth + 1);
            expect(Lexemes.ELSE);
            int other = expression(scope, depth + 1);
            int rest = tree.add(Tree.REST, token, one, other, 0);
            return tree.add(Tree.IF, token, condition, rest, 0);
        }

        private int cases(int scope, int depth) {
            int token = layout.token;
            layout.advance();
            int of = expression(scope, depth + 1);
            expect(Lexemes.OF);
            int first = NONE;
            int last = NONE;
            for (int n = 0; n < MANY && layout.now != Layout.BLOCK_END; n++) {
                if (layout.now != Lexemes.SEMICOLON && layout.now != Layout.ITEM_END) {
                    int item = pattern(told.openScope(scope, NONE));
                    expect(Lexemes.ARROW);
                    tree.itemBody[item] = expression(tree.itemRow[item], depth + 1);
                    if (last < 0) {
                        first = item;
                    } else {
                        tree.itemNext[last] = item;
                    }
                    last = item;
                }
                if (layout.now != Layout.BLOCK_END) {
                    endItem();
                }
            }
            if (first < 0) {
                layout.refuse(2);
            }
            expect(Layout.BLOCK_END);
            int rest = tree.add(Tree.REST, token, first, NONE, 0);
            int node = tree.add(Tree.CASE, token, of, rest, 0);
            for (int item = first; item >= 0; item = tree.itemNext[item]) {
                tree.itemOwner[item] = node;
            }
            return node;
        }

        private int pattern(int row) {
            int token = layout.token;
            switch (layout.now) {
                case Lexemes.CON:
                    layout.advance();
                    for (int n = 0; n < MANY && beginsPlace(); n++) {
                        place(row);
                    }
                    return tree.addItem(Tree.ANY_CON, token, NONE, row);
                case Lexemes.NUMBER:
                    layout.advance();
                    return tree.addItem(Tree.ANY_NUMBER, token, lexemes.value[token], row);
                case Lexemes.SQUARE:
                    layout.advance();
                    expect(Lexemes.SQUARE_END);
                    return tree.addItem(Tree.ANY_CON, token, Datas.EMPTY, row);
                case Lexemes.ROUND:
                    layout.advance();
                    place(row);
                    expect(Lexemes.COMMA);
                    place(row);
                    expect(Lexemes.ROUND_END);
                    return tree.addItem(Tree.ANY_CON, token, Datas.PAIR, row);
                default:
                    place(row);
                    if (layout.now != Lexemes.COLON) {
                        return tree.addItem(Tree.ANY_VALUE, token, NONE, row);
                    }
                    layout.advance();
                    place(row);
                    return tree.addItem(Tree.ANY_CON, token, Datas.CONS, row);
            }
        }

        private boolean beginsPlace() {
            return layout.now == Lexemes.NAME || layout.now == Lexemes.ANY;
        }

        private void place(int row) {
            if (!beginsPlace()) {
                layout.refuse(2);
            }
            if (layout.now == Lexemes.NAME) {
                told.tell(row, layout.token);
            } else {
                told.tellNothing(row);
            }
            layout.advance();
        }

        /** Operands with signs between them; a sign that ties less tightly ends those that tie more tightly. */
        private int chain(int scope, int depth) {
            int signsBelow = signSize;
            int counters = depth * LEVELS;
            for (int level = 0; level < LEVELS; level++) {
                operands[counters + level] = 1;
            }
            hold(call(scope, depth));
            for (int n = 0; n < MANY && LEVEL[layout.now] > 0; n++) {
                int level = LEVEL[layout.now];
                if (level == TEST && operands[counters + TEST] > 1) {
                    layout.refuse(2);
                }
                tie(level, signsBelow);
                operands[counters + level]++;
                for (int tighter = level + 1; tighter < LEVELS; tighter++) {
                    operands[counters + tighter] = 1;
                }
                holdSign(layout.now);
                layout.advance();
                if (!beginsAtom()) {
                    layout.refuse(2);
                }
                if (operands[counters + level] > OPERANDS) {
                    layout.refuse(8);
                }
                hold(call(scope, depth));
            }
            tie(0, signsBelow);
            heldSize--;
            return held[heldSize];
        }

        private void hold(int node) {
            if (heldSize < held.length) {
                held[heldSize] = node;
                heldSize++;
            }
        }

        private void holdSign(int sign) {
            if (signSize < signs.length) {
                signs[signSize] = sign;
                signSize++;
            }
        }

        /** Makes nodes of the signs that tie more tightly than a level, or as tightly and from the left. */
        private void tie(int level, int signsBelow) {
            for (int n = 0; n < MANY && signSize > signsBelow; n++) {
                int sign = signs[signSize - 1];
                int own = LEVEL[sign];
                if (own < level || own == level && level < SUM || heldSize < 2) {
                    return;
                }
                signSize--;
                heldSize -= 2;
                int left = held[heldSize];
                int right = held[heldSize + 1];
                int token = tree.first[left];
                if (own == ROW) {
                    hold(tree.addWhole(Tree.ROW, token, Datas.CONS, held, heldSize, 2));
                } else {
                    int kind = own < TEST ? Tree.LOGIC : Tree.SUM;
                    hold(tree.add(kind, token, left, right, sign));
                }
            }
        }

        private int call(int scope, int depth) {
            int head = atom(scope, depth);
            int below = heldSize;
            for (int n = 0; n < MANY && beginsAtom(); n++) {
                hold(atom(scope, depth));
            }
            int many = heldSize - below;
            heldSize = below;
            return many == 0 ? head : tree.addWhole(Tree.CALL, tree.first[head], head, held, below, many);
        }

        private int atom(int scope, int depth) {
            int token = layout.token;
            switch (layout.now) {
                case Lexemes.NAME:
                    layout.advance();
                    return tree.add(Tree.NAME, token, NONE, token, scope);
                case Lexemes.CON:
                    layout.advance();
                    return tree.add(Tree.CON, token, NONE, token, 0);
                case Lexemes.NUMBER:
                    layout.advance();
                    return tree.add(Tree.NUMBER, token, lexemes.value[token], 0, 0);
                case Lexemes.ROUND:
                    layout.advance();
                    return brackets(scope, depth, token);
                default:
                    layout.advance();
                    return list(scope, depth, token);
            }
        }

        private int brackets(int scope, int depth, int token) {
            int node = expression(scope, depth + 1);
            if (layout.now == Lexemes.COMMA) {
                hold(node);
                layout.advance();
                hold(expression(scope, depth + 1));
                heldSize -= 2;
                node = tree.addWhole(Tree.PAIR, token, Datas.PAIR, held, heldSize, 2);
            }
            expect(Lexemes.ROUND_END);
            tree.first[node] = token;
            return node;
        }

        private int list(int scope, int depth, int token) {
            if (layout.now == Lexemes.SQUARE_END) {
                layout.advance();
                return tree.add(Tree.CON, token, Datas.EMPTY, NONE, 0);
            }
            int below = heldSize;
            hold(expression(scope, depth + 1));
            for (int n = 0; n < MANY && layout.now == Lexemes.COMMA; n++) {
                layout.advance();
                hold(expression(scope, depth + 1));
            }
            expect(Lexemes.SQUARE_END);
            int many = heldSize - below;
            heldSize = below;
            return tree.addWhole(Tree.LIST, token, Datas.CONS, held, below, many);
        }
    }

    /** Types as a web of nodes, and what is told of names as rows of codes, the whole ahead of its parts. */
    private static final class Types {
        static final int UNKNOWN = 0;
        static final int LINK = 1;
        static final int INT = 2;
        static final int BOOL = 3;
        static final int FUN = 4;
        static final int LIST = 5;
        static final int PAIR = 6;
        static final int DATA = 7;
        /** FREE + k is a code for UNKNOWN k, of which each COPY has its own; below 0 is one that all COPIES share. */
        static final int FREE = 1000;
        /** Rows of codes: those of told names, of say, then of constructors. */
        static final int SAY_ROW = Told.NAMES;
        static final int CON_ROWS = Told.NAMES + 1;
        private static final int ROWS = CON_ROWS + Datas.OWN + Datas.MOST_CONS;
        private static final int WIDTH = 64;
        private static final int BIGGEST = 40;
        private static final int LETTERS = 26;

        private final Datas datas;
        private byte[] kind = new byte[4096];
        /** Of a LINK what it leads to, of a type with parts where these begin. */
        private int[] info = new int[4096];
        private int[] stamp = new int[4096];
        private int[] parts = new int[4096];
        private int[] pairs = new int[1024];
        private int[] walk = new int[1024];
        private final int[] codes = new int[ROWS * WIDTH];
        private final int[] codeSize = new int[ROWS];
        /** For each FREE one its node, while a row is written or copied. */
        private final int[] free = new int[WIDTH];
        /** The types of the variables around. */
        private final int[] around = new int[Told.NAMES + 4];
        int aroundSize;
        private int size;
        private int partSize;
        private int pairSize;
        private int walkSize;
        private int stampNow;
        private int freeSize;

        Types(Datas datas) {
            this.datas = datas;
        }

        void clear() {
            size = 0;
            partSize = 0;
            stampNow = 0;
            aroundSize = 0;
            make(INT);
            make(BOOL);
        }

        int intType() {
            return 0;
        }

        int boolType() {
            return 1;
        }

        int unknown() {
            return make(UNKNOWN);
        }

        int list(int of) {
            int type = make(LIST);
            addPart(of);
            return type;
        }

        int pair(int one, int other) {
            int type = make(PAIR);
            addPart(one);
            addPart(other);
            return type;
        }

        int function(int from, int to) {
            int type = make(FUN);
            addPart(from);
            addPart(to);
            return type;
        }

        private int make(int what) {
            if (size >= kind.length) {
                kind = Arrays.copyOf(kind, size * 2);
                info = Arrays.copyOf(info, size * 2);
                stamp = Arrays.copyOf(stamp, size * 2);
            }
            kind[size] = (byte) what;
            info[size] = partSize;
            stamp[size] = 0;
            size++;
            return size - 1;
        }

        private void addPart(int type) {
            if (partSize >= parts.length) {
                parts = Arrays.copyOf(parts, partSize * 2);
            }
            parts[partSize] = type;
            partSize++;
        }

        int partOf(int type, int k) {
            return parts[info[type] + k];
        }

        private int find(int type) {
            int at = type;
            for (int n = 0; n < MANY && kind[at] == LINK; n++) {
                at = info[at];
            }
            return at;
        }

        private void link(int from, int to) {
            kind[from] = LINK;
            info[from] = to;
        }

        void addAround(int type) {
            if (aroundSize < around.length) {
                around[aroundSize] = type;
                aroundSize++;
            }
        }

        /**
         * Makes two types ALIKE, or tells that they can't be. Wholes are linked once their parts are alike, so that
         * nothing that is shared is gone through twice.
         */
        boolean alike(int one, int other) {
            pairSize = 0;
            addPair(one, other, 0);
            for (int n = 0; n < MANY && pairSize > 0; n++) {
                pairSize -= 3;
                int x = find(pairs[pairSize]);
                int y = find(pairs[pairSize + 1]);
                if (x == y) {
                    continue;
                }
                if (pairs[pairSize + 2] != 0) {
                    link(x, y);
                } else if (kind[x] == UNKNOWN || kind[y] == UNKNOWN) {
                    int plain = kind[x] == UNKNOWN ? x : y;
                    int rich = plain == x ? y : x;
                    stampNow++;
                    stampAll(rich);
                    if (stamp[plain] == stampNow) {
                        return false;
                    }
                    link(plain, rich);
                } else if (kind[x] != kind[y]) {
                    return false;
                } else {
                    addPair(x, y, 1);
                    for (int k = datas.partsOf(kind[x]) - 1; k >= 0; k--) {
                        addPair(partOf(x, k), partOf(y, k), 0);
                    }
                }
            }
            return true;
        }

        private void addPair(int one, int other, int done) {
            if (pairSize + 3 > pairs.length) {
                pairs = Arrays.copyOf(pairs, pairs.length * 2);
            }
            pairs[pairSize] = one;
            pairs[pairSize + 1] = other;
            pairs[pairSize + 2] = done;
            pairSize += 3;
        }

        /** Stamps all that stands in a type. */
        private void stampAll(int within) {
            walkSize = 0;
            addWalk(within);
            for (int n = 0; n < MANY && walkSize > 0; n++) {
                walkSize--;
                int type = find(walk[walkSize]);
                int many = stamp[type] == stampNow ? 0 : datas.partsOf(kind[type]);
                stamp[type] = stampNow;
                for (int k = 0; k < many; k++) {
                    addWalk(partOf(type, k));
                }
            }
        }

        private void addWalk(int type) {
            if (walkSize >= walk.length) {
                walk = Arrays.copyOf(walk, walkSize * 2);
            }
            walk[walkSize] = type;
            walkSize++;
        }

        void stampAround() {
            stampNow++;
            for (int k = 0; k < aroundSize; k++) {
                stampAll(around[k]);
            }
        }

        /** Writes down a name's type, FREE where an UNKNOWN is not around; false if it is too big. */
        boolean settle(int name, int type) {
            freeSize = 0;
            walkSize = 0;
            addWalk(type);
            int written = 0;
            for (; written < BIGGEST && walkSize > 0; written++) {
                walkSize--;
                int at = find(walk[walkSize]);
                codes[name * WIDTH + written] = codeOf(at);
                for (int k = datas.partsOf(kind[at]) - 1; k >= 0; k--) {
                    addWalk(partOf(at, k));
                }
            }
            codeSize[name] = written;
            return walkSize == 0;
        }

        private int codeOf(int type) {
            if (kind[type] != UNKNOWN) {
                return kind[type];
            }
            if (stamp[type] == stampNow) {
                return -1 - type;
            }
            int k = 0;
            while (k < freeSize && free[k] != type) {
                k++;
            }
            if (k == freeSize) {
                free[freeSize] = type;
                freeSize++;
            }
            return FREE + k;
        }

        /** A COPY of the type that a row tells: from its last code on, as each whole stands ahead of its parts. */
        int instance(int row) {
            Arrays.fill(free, NONE);
            walkSize = 0;
            for (int at = codeSize[row] - 1; at >= 0; at--) {
                int code = codes[row * WIDTH + at];
                if (code < 0) {
                    addWalk(-1 - code);
                } else if (code >= FREE) {
                    addWalk(freeOne(code - FREE));
                } else if (code == INT) {
                    addWalk(intType());
                } else if (code == BOOL) {
                    addWalk(boolType());
                } else {
                    int type = make(code);
                    for (int k = datas.partsOf(code); k > 0 && walkSize > 0; k--) {
                        walkSize--;
                        addPart(walk[walkSize]);
                    }
                    addWalk(type);
                }
            }
            return walkSize > 0 ? walk[0] : intType();
        }

        private int freeOne(int k) {
            if (free[k] < 0) {
                free[k] = make(UNKNOWN);
            }
            return free[k];
        }

        boolean isFunction(int row) {
            return codeSize[row] > 0 && codes[row * WIDTH] == FUN;
        }

        /** Writes down the types of all constructors and of say. */
        void tellConstructors() {
            Arrays.fill(codeSize, 0);
            tellRow(SAY_ROW, FUN, INT, FUN, FREE, FREE);
            tellRow(CON_ROWS + Datas.FALSE, BOOL, 0, 0, 0, 0);
            tellRow(CON_ROWS + Datas.TRUE, BOOL, 0, 0, 0, 0);
            tellRow(CON_ROWS + Datas.EMPTY, LIST, FREE, 0, 0, 0);
            tellRow(CON_ROWS + Datas.CONS, FUN, FREE, FUN, LIST, FREE);
            addCode(CON_ROWS + Datas.CONS, LIST);
            addCode(CON_ROWS + Datas.CONS, FREE);
            tellRow(CON_ROWS + Datas.PAIR, FUN, FREE, FUN, FREE + 1, PAIR);
            addCode(CON_ROWS + Datas.PAIR, FREE);
            addCode(CON_ROWS + Datas.PAIR, FREE + 1);
            for (int con = Datas.OWN; con < datas.cons; con++) {
                tellConstructor(con);
            }
        }

        private void tellRow(int row, int one, int two, int three, int four, int five) {
            addCode(row, one);
            addCode(row, two);
            addCode(row, three);
            addCode(row, four);
            addCode(row, five);
        }

        private void addCode(int row, int code) {
            if (code != 0 && codeSize[row] < WIDTH) {
                codes[row * WIDTH + codeSize[row]] = code;
                codeSize[row]++;
            }
        }

        private void tellConstructor(int con) {
            int row = CON_ROWS + con;
            int at = datas.conCode[con];
            int end = at + datas.conCodes[con];
            int open = 0;
            for (; at < end; at++) {
                if (open == 0) {
                    addCode(row, FUN);
                    open = 1;
                }
                int code = datas.code[at];
                addCode(row, code);
                open += datas.partsOf(code) - 1;
            }
            int own = DATA + datas.conData[con];
            addCode(row, own);
            for (int k = 0; k < datas.partsOf(own); k++) {
                addCode(row, FREE + k);
            }
        }

        void write(Sheet sheet, int row) {
            writeFrom(sheet, row, 0, UNKNOWN, 0);
        }

        /** Writes the type that begins at a code; answers where it ends. Within is the kind that it is a part of. */
        private int writeFrom(Sheet sheet, int row, int at, int within, int depth) {
            if (at >= codeSize[row] || depth > BIGGEST) {
                return at;
            }
            int code = codes[row * WIDTH + at];
            boolean inData = within >= DATA;
            boolean bracket = code == FUN && (within == FUN || inData)
                    || code >= DATA && code < FREE && datas.partsOf(code) > 0 && inData;
            if (bracket || code == PAIR) {
                sheet.put('(');
            }
            int next = at + 1;
            if (code == FUN) {
                next = writeFrom(sheet, row, next, FUN, depth + 1);
                sheet.putWord(" -> ");
                next = writeFrom(sheet, row, next, UNKNOWN, depth + 1);
            } else if (code == PAIR) {
                next = writeFrom(sheet, row, next, PAIR, depth + 1);
                sheet.put(',');
                next = writeFrom(sheet, row, next, PAIR, depth + 1);
            } else if (code == LIST) {
                sheet.put('[');
                next = writeFrom(sheet, row, next, LIST, depth + 1);
                sheet.put(']');
            } else {
                writePlain(sheet, code);
                for (int k = 0; k < datas.partsOf(code); k++) {
                    sheet.put(' ');
                    next = writeFrom(sheet, row, next, DATA, depth + 1);
                }
            }
            if (bracket || code == PAIR) {
                sheet.put(')');
            }
            return next;
        }

        private void writePlain(Sheet sheet, int code) {
            if (code == INT) {
                sheet.putSymbol(Lexemes.INT);
            } else if (code == BOOL) {
                sheet.putSymbol(Lexemes.BOOL);
            } else if (code < FREE) {
                sheet.putSymbol(datas.symbolOfData(code - DATA));
            } else {
                int k = code - FREE;
                sheet.put('a' + k % LETTERS);
                if (k >= LETTERS) {
                    sheet.putNumber(k / LETTERS);
                }
            }
        }
    }

    /** Finds the GROUPS of the DEFINITIONS and all types, in the order that the document tells. */
    private static final class Typer {
        private static final int WORDS = 5;
        private static final int VISIT = 0;
        private static final int HEAD = 1;
        private static final int ARGUMENT = 2;
        private static final int WANT_INT = 3;
        private static final int WANT_BOOL = 4;
        private static final int ROWED = 5;
        private static final int PAIRED = 6;
        private static final int ELEMENT = 7;
        private static final int LAMBDA_DONE = 8;
        private static final int LET_DONE = 9;
        private static final int CHOSEN = 10;
        private static final int CASE_OPEN = 11;
        private static final int ITEM = 12;
        private static final int ITEM_DONE = 13;
        private static final int GROUP = 14;
        private static final int DEFINITION = 15;
        private static final int DEFINED = 16;
        private static final int GROUP_DONE = 17;
        /** A piece of work is its kind and, times this, what it is done to. */
        private static final int KINDS = 32;
        private static final int WORK = 16384;

        private final Lexemes lexemes;
        private final Tree tree;
        private final Told told;
        private final Types types;
        /** What is to be done, the next thing last. */
        private final int[] work = new int[WORK];
        private int workSize;
        private final int[] typeOf = new int[Tree.NODES];
        /** A name's type while it is around. */
        private final int[] nameType = new int[Told.NAMES];
        /** 1 for a name whose type is written down, for COPIES of it. */
        private final int[] settled = new int[Told.NAMES];
        /** For each DEFINITION those of its BLOCK that it uses, over any number of them. */
        private final long[] uses = new long[Told.NAMES * WORDS];
        /** In which GROUP of its BLOCK a DEFINITION is. */
        final int[] numberOf = new int[Told.NAMES];
        /** Of each scope: its first GROUP, and how many it has. */
        private final int[] firstGroup = new int[Told.ROOM];
        final int[] groupsOf = new int[Told.ROOM];
        private final int[] groupStart = new int[Told.NAMES + 1];
        private final int[] members = new int[Told.NAMES];
        private int groups;
        private int memberSize;

        Typer(Lexemes lexemes, Tree tree, Told told, Types types) {
            this.lexemes = lexemes;
            this.tree = tree;
            this.told = told;
            this.types = types;
        }

        void findGroups() {
            findUses();
            groups = 0;
            memberSize = 0;
            Arrays.fill(numberOf, NONE);
            Arrays.fill(settled, 0);
            for (int scope = 0; scope < told.scopes; scope++) {
                findGroupsOf(scope);
            }
            groupStart[groups] = memberSize;
        }

        private void findUses() {
            Arrays.fill(uses, 0);
            for (int node = 0; node < tree.size; node++) {
                if (tree.kind[node] == Tree.NAME && told.isDefinition(tree.a[node])) {
                    noteUse(tree.c[node], tree.a[node]);
                }
            }
            for (int by = 0; by < told.size; by++) {
                for (int name = 0; name < told.size && told.isDefinition(by); name++) {
                    if (isUsed(name, by)) {
                        for (int k = 0; k < WORDS; k++) {
                            uses[name * WORDS + k] |= uses[by * WORDS + k];
                        }
                    }
                }
            }
        }

        /** The DEFINITION of the same BLOCK in whose E a scope lies uses what is named there. */
        private void noteUse(int from, int used) {
            int block = told.scope[used];
            int scope = from;
            for (int n = 0; n < told.scopes && scope >= 0 && scope != block; n++) {
                int user = told.owner[scope];
                if (user >= 0 && told.scope[user] == block) {
                    uses[user * WORDS + (used >> 6)] |= 1L << (used & 63);
                    return;
                }
                scope = told.parent[scope];
            }
        }

        private boolean isUsed(int name, int used) {
            return (uses[name * WORDS + (used >> 6)] >>> (used & 63) & 1) != 0;
        }

        private boolean isTogether(int one, int other) {
            return one == other || isUsed(one, other) && isUsed(other, one);
        }

        private void findGroupsOf(int scope) {
            firstGroup[scope] = groups;
            groupsOf[scope] = 0;
            if (!told.isDefinition(told.first[scope])) {
                return;
            }
            for (int n = 0; n < told.width[scope]; n++) {
                int name = told.first[scope];
                while (name >= 0 && (numberOf[name] >= 0 || !isReady(scope, name))) {
                    name = told.next[name];
                }
                if (name < 0) {
                    return;
                }
                takeGroup(scope, name);
            }
        }

        private boolean isReady(int scope, int name) {
            for (int other = told.first[scope]; other >= 0; other = told.next[other]) {
                if (numberOf[other] < 0 && isUsed(name, other) && !isTogether(name, other)) {
                    return false;
                }
            }
            return true;
        }

        private void takeGroup(int scope, int name) {
            groupStart[groups] = memberSize;
            for (int other = told.first[scope]; other >= 0; other = told.next[other]) {
                if (numberOf[other] < 0 && isTogether(name, other)) {
                    numberOf[other] = groupsOf[scope];
                    members[memberSize] = other;
                    memberSize++;
                }
            }
            groups++;
            groupsOf[scope]++;
        }

        private void push(int kind, int what) {
            if (workSize < WORK) {
                work[workSize] = kind + KINDS * what;
                workSize++;
            }
        }

        private void pushGroups(int scope) {
            for (int k = groupsOf[scope] - 1; k >= 0; k--) {
                push(GROUP, firstGroup[scope] + k);
            }
        }

        void work() {
            types.clear();
            workSize = 0;
            pushGroups(0);
            for (int n = 0; n < MANY && workSize > 0; n++) {
                workSize--;
                int what = work[workSize] / KINDS;
                switch (work[workSize] % KINDS) {
                    case VISIT: visit(what); break;
                    case HEAD: typeOf[what] = typeOf[tree.a[what]]; break;
                    case ARGUMENT: giveArgument(what); break;
                    case WANT_INT: want(what, types.intType()); break;
                    case WANT_BOOL: want(what, types.boolType()); break;
                    case ROWED: endRow(what); break;
                    case PAIRED: typeOf[what] = types.pair(typeOf[partOf(what, 0)], typeOf[partOf(what, 1)]); break;
                    case ELEMENT: want(tree.part[what], types.partOf(typeOf[tree.partOwner[what]], 0)); break;
                    case LAMBDA_DONE: typeOf[what] = functionOf(tree.b[what], typeOf[tree.a[what]]); break;
                    case LET_DONE: typeOf[what] = typeOf[tree.a[what]]; break;
                    case CHOSEN: choose(what); break;
                    case CASE_OPEN: openCase(what); break;
                    case ITEM: openItem(what); break;
                    case ITEM_DONE: endItem(what); break;
                    case GROUP: openGroup(what); break;
                    case DEFINITION: openDefinition(what); break;
                    case DEFINED: endDefinition(what); break;
                    default: endGroup(what); break;
                }
            }
            int main = told.mainOf();
            if (types.isFunction(main)) {
                lexemes.fail(7, told.token[main]);
            }
        }

        /** Makes an E's type ALIKE with one; the fault is at that E. */
        private void want(int node, int type) {
            if (!types.alike(typeOf[node], type)) {
                lexemes.fail(7, tree.first[node]);
            }
        }

        private void visit(int node) {
            switch (tree.kind[node]) {
                case Tree.NUMBER: typeOf[node] = types.intType(); break;
                case Tree.NAME: typeOf[node] = typeOfName(tree.a[node]); break;
                case Tree.CON: typeOf[node] = types.instance(Types.CON_ROWS + tree.a[node]); break;
                case Tree.LAMBDA:
                    addNames(tree.b[node]);
                    push(LAMBDA_DONE, node);
                    push(VISIT, tree.a[node]);
                    break;
                case Tree.LET:
                    push(LET_DONE, node);
                    push(VISIT, tree.a[node]);
                    pushGroups(tree.b[node]);
                    break;
                case Tree.IF: visitIf(node); break;
                case Tree.CASE:
                    push(CASE_OPEN, node);
                    push(VISIT, tree.a[node]);
                    break;
                case Tree.LOGIC:
                    typeOf[node] = types.boolType();
                    visitOperands(node, WANT_BOOL);
                    break;
                case Tree.SUM:
                    typeOf[node] = isTest(tree.c[node]) ? types.boolType() : types.intType();
                    visitOperands(node, WANT_INT);
                    break;
                default: visitWhole(node); break;
            }
        }

        private static boolean isTest(int sign) {
            return sign == Lexemes.LESS || sign == Lexemes.GREATER || sign >= Lexemes.EQUAL && sign <= Lexemes.AT_LEAST;
        }

        private int typeOfName(int name) {
            if (name < 0) {
                return types.instance(Types.SAY_ROW);
            }
            return settled[name] == 1 ? types.instance(name) : nameType[name];
        }

        private void visitOperands(int node, int want) {
            push(want, tree.b[node]);
            push(VISIT, tree.b[node]);
            push(want, tree.a[node]);
            push(VISIT, tree.a[node]);
        }

        private void visitIf(int node) {
            int rest = tree.b[node];
            push(CHOSEN, node);
            push(VISIT, tree.b[rest]);
            push(VISIT, tree.a[rest]);
            push(WANT_BOOL, tree.a[node]);
            push(VISIT, tree.a[node]);
        }

        private void visitWhole(int node) {
            int kind = tree.kind[node];
            if (kind == Tree.LIST) {
                typeOf[node] = types.list(types.unknown());
            } else if (kind == Tree.ROW) {
                push(ROWED, node);
            } else if (kind == Tree.PAIR) {
                push(PAIRED, node);
            }
            for (int k = tree.c[node] - 1; k >= 0; k--) {
                int at = tree.b[node] + k;
                if (kind == Tree.CALL) {
                    push(ARGUMENT, at);
                } else if (kind == Tree.LIST) {
                    push(ELEMENT, at);
                }
                push(VISIT, tree.part[at]);
            }
            if (kind == Tree.CALL) {
                push(HEAD, node);
                push(VISIT, tree.a[node]);
            }
        }

        private int partOf(int node, int k) {
            return tree.part[tree.b[node] + k];
        }

        private void endRow(int node) {
            typeOf[node] = types.list(typeOf[partOf(node, 0)]);
            want(partOf(node, 1), typeOf[node]);
        }

        private void giveArgument(int at) {
            int call = tree.partOwner[at];
            int argument = tree.part[at];
            int answer = types.unknown();
            if (!types.alike(typeOf[call], types.function(typeOf[argument], answer))) {
                lexemes.fail(7, tree.first[argument]);
            }
            typeOf[call] = answer;
        }

        private void addName(int name, int type) {
            nameType[name] = type;
            types.addAround(type);
        }

        private void addNames(int row) {
            for (int name = told.first[row]; name >= 0; name = told.next[name]) {
                addName(name, types.unknown());
            }
        }

        private void dropNames(int row) {
            for (int name = told.first[row]; name >= 0; name = told.next[name]) {
                types.aroundSize--;
            }
        }

        /** The FUNCTION from the names of a row, which are no longer around, to a type. */
        private int functionOf(int row, int to) {
            int type = to;
            for (int at = told.width[row] - 1; at >= 0; at--) {
                int name = told.named(row, at);
                if (name >= 0) {
                    type = types.function(nameType[name], type);
                }
            }
            dropNames(row);
            return type;
        }

        private void choose(int node) {
            int rest = tree.b[node];
            typeOf[node] = typeOf[tree.a[rest]];
            want(tree.b[rest], typeOf[node]);
        }

        private void openCase(int node) {
            typeOf[node] = types.unknown();
            int from = workSize;
            for (int item = tree.a[tree.b[node]]; item >= 0; item = tree.itemNext[item]) {
                push(ITEM, item);
            }
            for (int low = from, high = workSize - 1; low < high; low++, high--) {
                int other = work[low];
                work[low] = work[high];
                work[high] = other;
            }
        }

        private void openItem(int item) {
            int row = tree.itemRow[item];
            int of = typeOf[tree.a[tree.itemOwner[item]]];
            int type = of;
            if (tree.itemKind[item] == Tree.ANY_NUMBER) {
                type = types.intType();
            } else if (tree.itemKind[item] == Tree.ANY_CON) {
                type = types.instance(Types.CON_ROWS + tree.itemWant[item]);
            }
            if (tree.itemKind[item] == Tree.ANY_VALUE) {
                for (int name = told.first[row]; name >= 0; name = told.next[name]) {
                    addName(name, of);
                }
            } else {
                for (int at = 0; at < told.width[row]; at++) {
                    int name = told.named(row, at);
                    if (name >= 0) {
                        addName(name, types.partOf(type, 0));
                    }
                    type = types.partOf(type, 1);
                }
                if (!types.alike(type, of)) {
                    lexemes.fail(7, tree.itemToken[item]);
                }
            }
            push(ITEM_DONE, item);
            push(VISIT, tree.itemBody[item]);
        }

        private void endItem(int item) {
            dropNames(tree.itemRow[item]);
            want(tree.itemBody[item], typeOf[tree.itemOwner[item]]);
        }

        private void openGroup(int group) {
            push(GROUP_DONE, group);
            for (int k = groupStart[group + 1] - 1; k >= groupStart[group]; k--) {
                push(DEFINITION, members[k]);
            }
            for (int k = groupStart[group]; k < groupStart[group + 1]; k++) {
                addName(members[k], types.unknown());
            }
        }

        private void openDefinition(int name) {
            addNames(told.row[name]);
            push(DEFINED, name);
            push(VISIT, told.body[name]);
        }

        private void endDefinition(int name) {
            int type = functionOf(told.row[name], typeOf[told.body[name]]);
            if (!types.alike(type, nameType[name])) {
                lexemes.fail(7, told.token[name]);
            }
        }

        private void endGroup(int group) {
            types.aroundSize -= groupStart[group + 1] - groupStart[group];
            types.stampAround();
            for (int k = groupStart[group]; k < groupStart[group + 1]; k++) {
                int name = members[k];
                if (!types.settle(name, nameType[name])) {
                    lexemes.fail(8, told.token[name]);
                }
                settled[name] = 1;
            }
        }
    }

    /** What stands FREE in each E, what each E NEEDS, and what its THINGS take of the room. */
    private static final class Needs {
        private static final int WORDS = 5;
        /** A set of its own, behind those of the nodes. */
        private static final int SPARE = Tree.NODES;

        private final Tree tree;
        private final Told told;
        /** Sets of local names, a row of WORDS for each node. */
        private final long[] free = new long[(Tree.NODES + 1) * WORDS];
        private final long[] need = new long[(Tree.NODES + 1) * WORDS];
        private final long[] strictOnes = new long[WORDS];
        /** What stands FREE in a node, as a row of names. */
        final int[] freeFrom = new int[Tree.NODES];
        final int[] freeMany = new int[Tree.NODES];
        int[] freeName = new int[4096];
        private int freeSize;
        /** The CELLS and the THUNKS of the THING of a node. */
        final int[] cells = new int[Tree.NODES];
        final int[] thunks = new int[Tree.NODES];
        /** The CELLS and the THUNKS that the STEP makes that works a node out. */
        final int[] madeCells = new int[Tree.NODES];
        final int[] madeThunks = new int[Tree.NODES];

        Needs(Tree tree, Told told) {
            this.tree = tree;
            this.told = told;
        }

        void find() {
            freeSize = 0;
            for (int node = 0; node < tree.size; node++) {
                empty(free, node);
                findFree(node);
                listFree(node);
            }
            for (int node = 0; node < tree.size; node++) {
                findCells(node);
            }
            findStrict();
        }

        private static void unite(long[] sets, int to, int from) {
            for (int k = 0; k < WORDS; k++) {
                sets[to * WORDS + k] |= sets[from * WORDS + k];
            }
        }

        private static void meet(long[] sets, int to, int from) {
            for (int k = 0; k < WORDS; k++) {
                sets[to * WORDS + k] &= sets[from * WORDS + k];
            }
        }

        private static void empty(long[] sets, int to) {
            for (int k = 0; k < WORDS; k++) {
                sets[to * WORDS + k] = 0;
            }
        }

        private static void include(long[] sets, int to, int name) {
            sets[to * WORDS + (name >> 6)] |= 1L << (name & 63);
        }

        private static boolean includes(long[] sets, int of, int name) {
            return (sets[of * WORDS + (name >> 6)] >>> (name & 63) & 1) != 0;
        }

        private void excludeScope(long[] sets, int from, int scope) {
            for (int name = told.first[scope]; name >= 0; name = told.next[name]) {
                sets[from * WORDS + (name >> 6)] &= ~(1L << (name & 63));
            }
        }

        private void findFree(int node) {
            int a = tree.a[node];
            int b = tree.b[node];
            switch (tree.kind[node]) {
                case Tree.NUMBER:
                case Tree.CON:
                    break;
                case Tree.NAME:
                    if (told.isLocal(a)) {
                        include(free, node, a);
                    }
                    break;
                case Tree.LAMBDA:
                    unite(free, node, a);
                    excludeScope(free, node, b);
                    break;
                case Tree.LET:
                    unite(free, node, a);
                    for (int name = told.first[b]; name >= 0; name = told.next[name]) {
                        unite(free, node, nodeOf(name));
                    }
                    excludeScope(free, node, b);
                    break;
                case Tree.REST: findFreeOfRest(node); break;
                case Tree.IF:
                case Tree.CASE:
                case Tree.LOGIC:
                case Tree.SUM:
                    unite(free, node, a);
                    unite(free, node, b);
                    break;
                default: findFreeOfParts(node); break;
            }
        }

        private void findFreeOfRest(int node) {
            if (tree.b[node] >= 0) {
                unite(free, node, tree.a[node]);
                unite(free, node, tree.b[node]);
                return;
            }
            for (int item = tree.a[node]; item >= 0; item = tree.itemNext[item]) {
                empty(free, SPARE);
                unite(free, SPARE, tree.itemBody[item]);
                excludeScope(free, SPARE, tree.itemRow[item]);
                unite(free, node, SPARE);
            }
        }

        private void findFreeOfParts(int node) {
            if (tree.kind[node] == Tree.CALL) {
                unite(free, node, tree.a[node]);
            }
            for (int k = 0; k < tree.c[node]; k++) {
                unite(free, node, tree.part[tree.b[node] + k]);
            }
        }

        private void listFree(int node) {
            freeFrom[node] = freeSize;
            for (int k = 0; k < WORDS; k++) {
                long bits = free[node * WORDS + k];
                for (int n = 0; n < 64 && bits != 0; n++) {
                    if (freeSize >= freeName.length) {
                        freeName = Arrays.copyOf(freeName, freeSize * 2);
                    }
                    freeName[freeSize] = k * 64 + Long.bitCount((bits & -bits) - 1);
                    freeSize++;
                    bits &= bits - 1;
                }
            }
            freeMany[node] = freeSize - freeFrom[node];
        }

        /** The node of which a DEFINITION's THING is made. */
        int nodeOf(int name) {
            return told.maker[name] >= 0 ? told.maker[name] : told.body[name];
        }

        private void findCells(int node) {
            int kind = tree.kind[node];
            cells[node] = 0;
            thunks[node] = 0;
            madeCells[node] = 0;
            madeThunks[node] = 0;
            if (tree.isBuilt(node) || kind == Tree.CALL) {
                addParts(node);
            }
            if (kind == Tree.LET) {
                addDefinitions(node);
            }
            if (kind == Tree.NUMBER || kind == Tree.NAME || kind == Tree.CON) {
                return;
            }
            if (kind == Tree.LAMBDA) {
                madeCells[node] = 1 + freeMany[node];
            } else if (kind == Tree.LIST) {
                madeCells[node] += 3 * tree.c[node];
            } else if (tree.isBuilt(node)) {
                madeCells[node] += 1 + tree.c[node];
            } else {
                cells[node] = 2 + freeMany[node];
                thunks[node] = 1;
                return;
            }
            cells[node] = madeCells[node];
            thunks[node] = madeThunks[node];
        }

        private void addParts(int node) {
            for (int k = 0; k < tree.c[node]; k++) {
                int part = tree.part[tree.b[node] + k];
                madeCells[node] += cells[part];
                madeThunks[node] += thunks[part];
            }
        }

        private void addDefinitions(int node) {
            for (int name = told.first[tree.b[node]]; name >= 0; name = told.next[name]) {
                int made = nodeOf(name);
                boolean plain = tree.kind[made] == Tree.NAME;
                madeCells[node] += plain ? 2 + freeMany[made] : cells[made];
                madeThunks[node] += plain ? 1 : thunks[made];
            }
        }

        /** From all PARAMETERS on down to the greatest sets that hold. */
        private void findStrict() {
            Arrays.fill(strictOnes, 0);
            for (int i = 0; i < told.width[0]; i++) {
                int row = told.row[told.globals[i]];
                for (int name = told.first[row]; name >= 0; name = told.next[name]) {
                    include(strictOnes, 0, name);
                }
            }
            boolean changed = true;
            for (int n = 0; n <= Told.NAMES && changed; n++) {
                for (int node = 0; node < tree.size; node++) {
                    empty(need, node);
                    findNeed(node);
                }
                changed = dropUnneeded();
            }
        }

        private boolean dropUnneeded() {
            boolean changed = false;
            for (int i = 0; i < told.width[0]; i++) {
                int definition = told.globals[i];
                for (int name = told.first[told.row[definition]]; name >= 0; name = told.next[name]) {
                    if (isStrict(name) && !includes(need, told.body[definition], name)) {
                        strictOnes[name >> 6] &= ~(1L << (name & 63));
                        changed = true;
                    }
                }
            }
            return changed;
        }

        boolean isStrict(int name) {
            return includes(strictOnes, 0, name);
        }

        private void findNeed(int node) {
            int a = tree.a[node];
            int b = tree.b[node];
            switch (tree.kind[node]) {
                case Tree.NAME:
                    if (told.isLocal(a)) {
                        include(need, node, a);
                    }
                    break;
                case Tree.LET: findNeedOfLet(node); break;
                case Tree.REST: findNeedOfRest(node); break;
                case Tree.IF:
                case Tree.CASE:
                case Tree.SUM:
                    unite(need, node, a);
                    unite(need, node, b);
                    break;
                case Tree.LOGIC: unite(need, node, a); break;
                case Tree.CALL: findNeedOfCall(node); break;
                default: break;
            }
        }

        private void findNeedOfLet(int node) {
            int scope = tree.b[node];
            unite(need, node, tree.a[node]);
            for (int n = 0; n < told.width[scope]; n++) {
                for (int name = told.first[scope]; name >= 0; name = told.next[name]) {
                    if (told.maker[name] < 0 && includes(need, node, name)) {
                        unite(need, node, told.body[name]);
                    }
                }
            }
            excludeScope(need, node, scope);
        }

        private void findNeedOfRest(int node) {
            if (tree.b[node] >= 0) {
                unite(need, node, tree.a[node]);
                meet(need, node, tree.b[node]);
                return;
            }
            for (int item = tree.a[node]; item >= 0; item = tree.itemNext[item]) {
                empty(need, SPARE);
                unite(need, SPARE, tree.itemBody[item]);
                excludeScope(need, SPARE, tree.itemRow[item]);
                if (item == tree.a[node]) {
                    unite(need, node, SPARE);
                } else {
                    meet(need, node, SPARE);
                }
            }
        }

        private void findNeedOfCall(int node) {
            int head = tree.a[node];
            int name = tree.a[head];
            if (tree.kind[head] == Tree.CON) {
                return;
            }
            if (tree.kind[head] != Tree.NAME || told.isLocal(name)) {
                unite(need, node, head);
            } else if (name == Told.SAY) {
                for (int k = 0; k < 2 && tree.c[node] >= 2; k++) {
                    unite(need, node, tree.part[tree.b[node] + k]);
                }
            } else if (told.width[told.row[name]] <= tree.c[node]) {
                for (int k = 0; k < told.width[told.row[name]]; k++) {
                    if (isStrict(told.named(told.row[name], k))) {
                        unite(need, node, tree.part[tree.b[node] + k]);
                    }
                }
            }
        }
    }

    /** The room of a run: variables, things (one place for each CELL), what WAITS, and the PROGRAM's DEFINITIONS. */
    private static final class Store {
        static final int CELLS = 4000;
        static final int DEEPEST = 1000;

        /** Kinds of what a variable can be; the number that goes with each says which one it is. */
        static final int NUMBER = 0;
        static final int CON = 1;
        static final int OBJECT = 2;
        static final int FUNCTION = 3;
        static final int MAKER = 4;
        static final int SAY = 5;
        static final int GLOBAL = 6;

        /** Kinds of OBJECTS, which stand in their first places. */
        static final int BUILT = 0;
        static final int CLOSURE = 1;
        static final int PARTIAL = 2;
        static final int FRESH = 3;
        static final int HELD = 4;
        static final int DONE = 5;
        private static final int MOVED = 6;

        static final int UNASKED = 0;
        static final int ASKED = 1;
        static final int KNOWN = 2;

        private static final int FRAME_KINDS = 16;

        private final Tree tree;
        private final Told told;
        private final Datas datas;
        private final Needs needs;
        private long[] heap = new long[CELLS];
        private long[] spare = new long[CELLS];
        private int used;
        private int spareUsed;
        final long[] variable = new long[Told.NAMES];
        /** ARGUMENTS on their way to a FUNCTION. */
        final long[] argument = new long[16];
        int arguments;
        /** What WAITS: a kind and a node for each frame, and what it holds. */
        private final int[] frame = new int[DEEPEST];
        private final int[] frameFrom = new int[DEEPEST];
        int frames;
        private long[] saved = new long[8192];
        private int savedSize;
        final int[] globalState = new int[Told.GLOBALS];
        final long[] globalValue = new long[Told.GLOBALS];
        /** Things that were made and not filled yet: where each is, and its node. */
        private final int[] unfilled = new int[2 * CELLS];
        private int unfilledSize;
        /** What is worked out: an E's node; if that is NONE, a thing. */
        int nextNode;
        long nextThing;

        Store(Tree tree, Told told, Datas datas, Needs needs) {
            this.tree = tree;
            this.told = told;
            this.datas = datas;
            this.needs = needs;
        }

        static long valueOf(int kind, int which) {
            return (long) kind << 32 | which & 0xFFFFFFFFL;
        }

        static int kindOf(long value) {
            return (int) (value >>> 32);
        }

        static int whichOf(long value) {
            return (int) value;
        }

        void clear() {
            used = 0;
            arguments = 0;
            frames = 0;
            savedSize = 0;
            unfilledSize = 0;
            nextThingIs(0);
        }

        void nextThingIs(long thing) {
            nextNode = NONE;
            nextThing = thing;
        }

        /** The kind of an OBJECT; NONE of what is none. */
        int objectKind(long value) {
            int at = (int) value;
            boolean isObject = (int) (value >>> 32) == OBJECT && at >= 0 && at < CELLS;
            return isObject ? (int) (heap[at] >>> 32) : NONE;
        }

        /** The node, the constructor or the number of ARGUMENTS of an OBJECT. */
        int objectOf(long value) {
            int at = (int) value;
            return at >= 0 && at < CELLS ? (int) heap[at] : 0;
        }

        long field(long value, int k) {
            int at = (int) value + k;
            return at >= 0 && at < CELLS ? heap[at] : 0;
        }

        void setField(long value, int k, long field) {
            int at = (int) value + k;
            if (at >= 0 && at < CELLS) {
                heap[at] = field;
            }
        }

        void setKind(long value, int kind) {
            setField(value, 0, (long) kind << 32 | objectOf(value));
        }

        int cellsThere() {
            hasRoom(CELLS + 1);
            return used;
        }

        /** Makes an OBJECT, for which hasRoom() has told that there is room. */
        long make(int kind, int which, int cells) {
            int at = used;
            if (at + cells > CELLS) {
                return 0;
            }
            heap[at] = (long) kind << 32 | which;
            used += cells;
            return (long) OBJECT << 32 | at;
        }

        /** Whether so many CELLS can be made, what can't be reached being given up if there is need of that. */
        boolean hasRoom(int cells) {
            if (used + cells <= CELLS) {
                return true;
            }
            spareUsed = 0;
            for (int k = 0; k < savedSize; k++) {
                saved[k] = moved(saved[k]);
            }
            for (int i = 0; i < told.width[0]; i++) {
                if (globalState[i] == KNOWN) {
                    globalValue[i] = moved(globalValue[i]);
                }
            }
            if (nextNode < 0) {
                nextThing = moved(nextThing);
            } else {
                for (int k = 0; k < needs.freeMany[nextNode]; k++) {
                    int name = needs.freeName[needs.freeFrom[nextNode] + k];
                    variable[name] = moved(variable[name]);
                }
            }
            for (int k = 0; k < arguments; k++) {
                argument[k] = moved(argument[k]);
            }
            int end = 0;
            for (int at = 0; at < spareUsed; at++) {
                if (at == end) {
                    end += sizeOf(spare[at]);
                } else {
                    spare[at] = moved(spare[at]);
                }
            }
            long[] old = heap;
            heap = spare;
            spare = old;
            used = spareUsed;
            return used + cells <= CELLS;
        }

        /** Copies what a value is, unless that is done; a THUNK that has its value is that. */
        private long moved(long value) {
            long now = value;
            if (objectKind(now) == DONE) {
                now = field(now, 1);
            }
            if (objectKind(now) == NONE) {
                return now;
            }
            int at = (int) now;
            if ((int) (heap[at] >>> 32) != MOVED) {
                int cells = sizeOf(heap[at]);
                System.arraycopy(heap, at, spare, spareUsed, cells);
                heap[at] = (long) MOVED << 32 | spareUsed;
                spareUsed += cells;
            }
            return (long) OBJECT << 32 | (int) heap[at];
        }

        private int sizeOf(long header) {
            int which = (int) header;
            switch ((int) (header >>> 32)) {
                case BUILT: return 1 + datas.conFields[which];
                case CLOSURE: return 1 + needs.freeMany[which];
                case PARTIAL: return 2 + which;
                default: return 2 + needs.freeMany[which];
            }
        }

        /** What a NAME of an E is. */
        long named(int node) {
            int name = tree.a[node];
            if (name == Told.SAY) {
                return valueOf(SAY, 0);
            }
            return told.isLocal(name) ? variable[name] : globalThing(told.place[name]);
        }

        long globalThing(int i) {
            return globalState[i] == KNOWN ? globalValue[i] : (long) GLOBAL << 32 | i;
        }

        long constructor(int con) {
            return valueOf(datas.conFields[con] == 0 ? CON : MAKER, con);
        }

        /** The constructor of a value; NONE of what has none. */
        int conOf(long value) {
            if (kindOf(value) == CON) {
                return whichOf(value);
            }
            return objectKind(value) == BUILT ? objectOf(value) : NONE;
        }

        /** The THING OF an E, for which there is room; fill() must follow. */
        long thing(int node) {
            int many = tree.c[node];
            switch (tree.kind[node]) {
                case Tree.NUMBER: return valueOf(NUMBER, tree.a[node]);
                case Tree.NAME: return named(node);
                case Tree.CON: return constructor(tree.a[node]);
                case Tree.LAMBDA: return later(make(CLOSURE, node, 1 + needs.freeMany[node]), node);
                case Tree.ROW:
                case Tree.PAIR:
                case Tree.BUILT: return later(make(BUILT, tree.a[node], 1 + many), node);
                case Tree.LIST: return list(node, many);
                default: return thunk(node);
            }
        }

        private long thunk(int node) {
            long made = make(FRESH, node, 2 + needs.freeMany[node]);
            setField(made, 1, 0);
            return later(made, node);
        }

        private long list(int node, int many) {
            long first = later(make(BUILT, Datas.CONS, 3), node);
            long last = first;
            for (int k = 1; k < many; k++) {
                long made = make(BUILT, Datas.CONS, 3);
                setField(last, 2, made);
                last = made;
            }
            setField(last, 2, (long) CON << 32 | Datas.EMPTY);
            return first;
        }

        /** The THING of a DEFINITION: a NAME alone is a THUNK here. */
        long definitionThing(int name) {
            int node = needs.nodeOf(name);
            return tree.kind[node] == Tree.NAME ? thunk(node) : thing(node);
        }

        private long later(long made, int node) {
            if (unfilledSize + 2 <= unfilled.length) {
                unfilled[unfilledSize] = (int) made;
                unfilled[unfilledSize + 1] = node;
                unfilledSize += 2;
            }
            return made;
        }

        /** Gives the things that were made what they hold, when all of them are there. */
        void fill() {
            for (int n = 0; n < MANY && unfilledSize > 0; n++) {
                unfilledSize -= 2;
                int at = unfilled[unfilledSize];
                int node = unfilled[unfilledSize + 1];
                int kind = (int) (heap[at] >>> 32);
                if (kind == BUILT) {
                    int apart = tree.kind[node] == Tree.LIST ? 3 : 1;
                    for (int k = 0; k < tree.c[node]; k++) {
                        heap[at + 1 + apart * k] = thing(tree.part[tree.b[node] + k]);
                    }
                } else {
                    int from = at + (kind == FRESH ? 2 : 1);
                    for (int k = 0; k < needs.freeMany[node]; k++) {
                        heap[from + k] = variable[needs.freeName[needs.freeFrom[node] + k]];
                    }
                }
            }
        }

        /** The variables FREE in a node are again what an OBJECT holds from a place on. */
        void release(long value, int from, int node) {
            for (int k = 0; k < needs.freeMany[node]; k++) {
                variable[needs.freeName[needs.freeFrom[node] + k]] = field(value, from + k);
            }
        }

        /** One thing more WAITS; false if it would be too much. */
        boolean push(int kind, int node) {
            if (frames >= DEEPEST) {
                return false;
            }
            frame[frames] = kind + FRAME_KINDS * node;
            frameFrom[frames] = savedSize;
            frames++;
            return true;
        }

        int topKind() {
            return frames > 0 ? frame[frames - 1] % FRAME_KINDS : NONE;
        }

        int topNode() {
            return frames > 0 ? frame[frames - 1] / FRAME_KINDS : NONE;
        }

        void setTopKind(int kind) {
            if (frames > 0) {
                frame[frames - 1] = kind + FRAME_KINDS * topNode();
            }
        }

        void pop() {
            if (frames > 0) {
                frames--;
                savedSize = frameFrom[frames];
            }
        }

        /** How many things the last frame holds. */
        int topHolds() {
            return frames > 0 ? savedSize - frameFrom[frames - 1] : 0;
        }

        void keep(long value) {
            if (savedSize >= saved.length) {
                saved = Arrays.copyOf(saved, savedSize * 2);
            }
            saved[savedSize] = value;
            savedSize++;
        }

        /** The last thing that the last frame holds, which it holds no longer. */
        long drop() {
            if (topHolds() < 1) {
                return 0;
            }
            savedSize--;
            return saved[savedSize];
        }

        void keepFree(int node) {
            for (int k = 0; k < needs.freeMany[node]; k++) {
                keep(variable[needs.freeName[needs.freeFrom[node] + k]]);
            }
        }

        /** The last frame is over, and the variables that it held are again what they were. */
        void popFree(int node) {
            int from = savedSize - needs.freeMany[node];
            for (int k = 0; k < needs.freeMany[node] && from >= 0; k++) {
                variable[needs.freeName[needs.freeFrom[node] + k]] = saved[from + k];
            }
            pop();
        }

        void popArguments() {
            arguments = Math.min(topHolds(), argument.length);
            for (int k = 0; k < arguments; k++) {
                argument[k] = saved[savedSize - arguments + k];
            }
            pop();
        }
    }

    /** A run: STEP by STEP, with what follows from each of them up to the next. */
    private static final class Machine {
        private static final int GOING = 1;
        private static final int SHOWN = 2;
        private static final int LOOP = 3;
        private static final int MISS = 4;
        private static final int ZERO = 5;
        private static final int ROOM = 6;
        private static final int DEEP = 7;

        /** Kinds of what WAITS. */
        private static final int ARGUMENTS = 0;
        private static final int CHOICE = 1;
        private static final int CASES = 2;
        private static final int DECISION = 3;
        private static final int LEFT = 4;
        private static final int RIGHT = 5;
        private static final int THUNK = 6;
        private static final int SAYING = 7;
        private static final int FIELDS = 8;
        private static final int LIST_FIRST = 9;
        private static final int LIST_REST = 10;

        private static final int OUTPUT = 500;

        private final Tree tree;
        private final Told told;
        private final Datas datas;
        private final Needs needs;
        private final Store store;
        final Sheet text;
        private final int[] output = new int[OUTPUT];
        private int outputs;
        private int state;
        private int steps;
        private int made;
        private int got;
        /** The value that was worked out, on its way to what WAITS for it. */
        private long value;
        private boolean giving;

        Machine(Lexemes lexemes, Tree tree, Told told, Datas datas, Needs needs) {
            this.tree = tree;
            this.told = told;
            this.datas = datas;
            this.needs = needs;
            store = new Store(tree, told, datas, needs);
            text = new Sheet(lexemes, 1000);
        }

        void forget() {
            state = 0;
            outputs = 0;
            steps = 0;
            made = 0;
            got = 0;
            value = 0;
            giving = false;
            text.clear();
        }

        boolean begun() {
            return state != 0;
        }

        boolean goesOn() {
            return state == GOING;
        }

        void start() {
            forget();
            store.clear();
            state = GOING;
            int cells = 0;
            for (int i = 0; i < told.width[0]; i++) {
                int name = told.globals[i];
                int body = told.body[name];
                store.globalState[i] = Store.KNOWN;
                if (told.maker[name] >= 0) {
                    store.globalValue[i] = Store.valueOf(Store.FUNCTION, name);
                } else if (isValue(body)) {
                    cells += needs.cells[body];
                    made += needs.thunks[body];
                } else {
                    store.globalState[i] = Store.UNASKED;
                }
            }
            if (!store.hasRoom(cells)) {
                state = ROOM;
                return;
            }
            for (int i = 0; i < told.width[0]; i++) {
                int name = told.globals[i];
                if (told.maker[name] < 0 && store.globalState[i] == Store.KNOWN) {
                    store.globalValue[i] = store.thing(told.body[name]);
                }
            }
            store.fill();
            store.nextThingIs(store.globalThing(told.place[told.mainOf()]));
        }

        private boolean isValue(int node) {
            int kind = tree.kind[node];
            return kind == Tree.NUMBER || kind == Tree.LAMBDA || kind == Tree.CON || tree.isBuilt(node);
        }

        int go(int n) {
            int began = 0;
            for (; began < n && state == GOING; began++) {
                steps++;
                step();
                for (int k = 0; k < MANY && giving && state == GOING; k++) {
                    giving = handOn();
                }
            }
            return began;
        }

        int counted(int what) {
            switch (what) {
                case 5: return state;
                case 6: return steps;
                case 7: return made;
                case 8: return got;
                case 9: return state == GOING ? store.cellsThere() : 0;
                case 10: return state == GOING ? store.frames : 0;
                case 11: return text.size();
                default: return outputs;
            }
        }

        int outputAt(int k) {
            return k < 0 || k >= outputs ? 0 : output[k];
        }

        int globalIs(int i, int what) {
            int stateOf = store.globalState[i];
            if (what == 0) {
                return stateOf;
            }
            if (stateOf != Store.KNOWN) {
                return NONE;
            }
            long it = store.globalValue[i];
            int con = store.conOf(it);
            if (Store.kindOf(it) == Store.NUMBER) {
                return what == 1 ? 0 : Store.whichOf(it);
            }
            if (con >= 0) {
                return what == 1 ? 1 : con;
            }
            return what == 1 ? 2 : wants(functionOf(it)) - held(it);
        }

        private void step() {
            int node = store.nextNode;
            if (node < 0) {
                ask(store.nextThing);
                return;
            }
            switch (tree.kind[node]) {
                case Tree.NUMBER:
                case Tree.CON: give(store.thing(node)); break;
                case Tree.NAME: ask(store.named(node)); break;
                case Tree.CALL: call(node); break;
                case Tree.LET: let(node); break;
                case Tree.IF: waitFor(CHOICE, node); break;
                case Tree.CASE: waitFor(CASES, node); break;
                case Tree.LOGIC: waitFor(DECISION, node); break;
                case Tree.SUM: waitFor(LEFT, node); break;
                default: build(node); break;
            }
        }

        /** Works the first part of an E out; the second one, with what is FREE in it, WAITS. */
        private void waitFor(int kind, int node) {
            if (!store.push(kind, node)) {
                state = DEEP;
                return;
            }
            store.keepFree(tree.b[node]);
            store.nextNode = tree.a[node];
        }

        private boolean canMake(int node) {
            if (!store.hasRoom(needs.madeCells[node])) {
                state = ROOM;
                return false;
            }
            made += needs.madeThunks[node];
            return true;
        }

        private void build(int node) {
            if (canMake(node)) {
                long thing = store.thing(node);
                store.fill();
                give(thing);
            }
        }

        private void call(int node) {
            if (!canMake(node)) {
                return;
            }
            if (!store.push(ARGUMENTS, node)) {
                state = DEEP;
                return;
            }
            for (int k = 0; k < tree.c[node]; k++) {
                store.keep(store.thing(tree.part[tree.b[node] + k]));
            }
            store.fill();
            store.nextNode = tree.a[node];
        }

        private void let(int node) {
            if (!canMake(node)) {
                return;
            }
            for (int name = told.first[tree.b[node]]; name >= 0; name = told.next[name]) {
                store.variable[name] = store.definitionThing(name);
            }
            store.fill();
            store.nextNode = tree.a[node];
        }

        /** Works a thing out, as a variable is. */
        private void ask(long thing) {
            if (Store.kindOf(thing) == Store.GLOBAL) {
                askGlobal(thing);
                return;
            }
            switch (store.objectKind(thing)) {
                case Store.HELD: state = LOOP; break;
                case Store.DONE: give(store.field(thing, 1)); break;
                case Store.FRESH:
                    store.setKind(thing, Store.HELD);
                    if (waitForThunk(thing)) {
                        int node = store.objectOf(thing);
                        store.release(thing, 2, node);
                        store.nextNode = node;
                    }
                    break;
                default: give(thing); break;
            }
        }

        private void askGlobal(long thing) {
            int i = Store.whichOf(thing);
            if (store.globalState[i] == Store.KNOWN) {
                give(store.globalValue[i]);
            } else if (store.globalState[i] == Store.ASKED) {
                state = LOOP;
            } else {
                store.globalState[i] = Store.ASKED;
                if (waitForThunk(thing)) {
                    store.nextNode = told.body[told.globals[i]];
                }
            }
        }

        private boolean waitForThunk(long thing) {
            if (!store.push(THUNK, 0)) {
                state = DEEP;
                return false;
            }
            store.keep(thing);
            return true;
        }

        /** A value came, for what WAITS. */
        private void give(long what) {
            value = what;
            giving = true;
        }

        /** Hands the value to the last thing that WAITS; true if a value came of that. */
        private boolean handOn() {
            int node = store.topNode();
            switch (store.topKind()) {
                case ARGUMENTS:
                    store.popArguments();
                    store.nextThingIs(value);
                    return apply();
                case CHOICE:
                    store.popFree(tree.b[node]);
                    store.nextNode = isTrue() ? tree.a[tree.b[node]] : tree.b[tree.b[node]];
                    return false;
                case CASES: return choose(node);
                case DECISION: return decide(node);
                case LEFT:
                    store.popFree(tree.b[node]);
                    store.push(RIGHT, node);
                    store.keep(value);
                    store.nextNode = tree.b[node];
                    return false;
                case RIGHT: return reckon(tree.c[node]);
                case THUNK: return settle();
                case SAYING:
                    putOutput(Store.whichOf(value));
                    store.nextThingIs(store.drop());
                    store.pop();
                    return false;
                case LIST_REST: showRest(); return false;
                default: show(); return false;
            }
        }

        private boolean isTrue() {
            return store.conOf(value) == Datas.TRUE;
        }

        private void putOutput(int number) {
            if (outputs < OUTPUT) {
                output[outputs] = number;
                outputs++;
            }
        }

        private boolean settle() {
            long thunk = store.drop();
            store.pop();
            got++;
            if (Store.kindOf(thunk) == Store.GLOBAL) {
                store.globalState[Store.whichOf(thunk)] = Store.KNOWN;
                store.globalValue[Store.whichOf(thunk)] = value;
            } else {
                store.setKind(thunk, Store.DONE);
                store.setField(thunk, 1, value);
            }
            return true;
        }

        private boolean choose(int node) {
            int rest = tree.b[node];
            store.popFree(rest);
            for (int item = tree.a[rest]; item >= 0; item = tree.itemNext[item]) {
                if (fits(item)) {
                    nameFields(item);
                    store.nextNode = tree.itemBody[item];
                    return false;
                }
            }
            state = MISS;
            return false;
        }

        private boolean fits(int item) {
            switch (tree.itemKind[item]) {
                case Tree.ANY_NUMBER: return Store.whichOf(value) == tree.itemWant[item];
                case Tree.ANY_CON: return store.conOf(value) == tree.itemWant[item];
                default: return true;
            }
        }

        private void nameFields(int item) {
            int row = tree.itemRow[item];
            boolean whole = tree.itemKind[item] == Tree.ANY_VALUE;
            for (int name = told.first[row]; name >= 0; name = told.next[name]) {
                store.variable[name] = whole ? value : store.field(value, 1 + told.place[name]);
            }
        }

        private boolean decide(int node) {
            store.popFree(tree.b[node]);
            if (isTrue() == (tree.c[node] == Lexemes.OR)) {
                return true;
            }
            store.nextNode = tree.b[node];
            return false;
        }

        private boolean reckon(int sign) {
            int left = Store.whichOf(store.drop());
            int right = Store.whichOf(value);
            store.pop();
            switch (sign) {
                case Lexemes.PLUS: return isNumber(left + right);
                case Lexemes.MINUS: return isNumber(left - right);
                case Lexemes.TIMES: return isNumber(left * right);
                case Lexemes.LESS: return isBool(left < right);
                case Lexemes.GREATER: return isBool(left > right);
                case Lexemes.EQUAL: return isBool(left == right);
                case Lexemes.UNEQUAL: return isBool(left != right);
                case Lexemes.AT_MOST: return isBool(left <= right);
                case Lexemes.AT_LEAST: return isBool(left >= right);
                default: break;
            }
            if (right == 0) {
                state = ZERO;
                return false;
            }
            return isNumber(sign == Lexemes.OVER ? left / right : left % right);
        }

        private boolean isNumber(int number) {
            value = Store.valueOf(Store.NUMBER, number);
            return true;
        }

        private boolean isBool(boolean answer) {
            value = Store.valueOf(Store.CON, answer ? Datas.TRUE : Datas.FALSE);
            return true;
        }

        /** How many ARGUMENTS a FUNCTION has. */
        private int held(long function) {
            return store.objectKind(function) == Store.PARTIAL ? store.objectOf(function) : 0;
        }

        /** A FUNCTION without the ARGUMENTS that it has. */
        private long functionOf(long function) {
            return store.objectKind(function) == Store.PARTIAL ? store.field(function, 1) : function;
        }

        private int wants(long function) {
            int which = Store.whichOf(function);
            switch (Store.kindOf(function)) {
                case Store.FUNCTION: return told.width[told.row[which]];
                case Store.MAKER: return datas.conFields[which];
                case Store.SAY: return 2;
                default: return told.width[tree.b[store.objectOf(function)]];
            }
        }

        /** Of all ARGUMENTS that the FUNCTION has and gets, number k. */
        private long given(int k) {
            int held = held(store.nextThing);
            return k < held ? store.field(store.nextThing, 2 + k) : store.argument[k - held];
        }

        /** Gives the ARGUMENTS to the FUNCTION that is the next thing. */
        private boolean apply() {
            int all = held(store.nextThing) + store.arguments;
            long function = functionOf(store.nextThing);
            int wanted = wants(function);
            if (all < wanted || Store.kindOf(function) == Store.MAKER) {
                return gather(all, all < wanted);
            }
            if (all > wanted) {
                store.push(ARGUMENTS, 0);
                for (int k = wanted; k < all; k++) {
                    store.keep(given(k));
                }
            }
            if (Store.kindOf(function) == Store.SAY) {
                return say();
            }
            enter(function);
            store.arguments = 0;
            return false;
        }

        /** Makes a FUNCTION with ARGUMENTS, or what a constructor with its last one is. */
        private boolean gather(int all, boolean few) {
            if (!store.hasRoom(few ? 2 + all : 1 + all)) {
                state = ROOM;
                return false;
            }
            long function = functionOf(store.nextThing);
            long whole;
            if (few) {
                whole = store.make(Store.PARTIAL, all, 2 + all);
                store.setField(whole, 1, function);
            } else {
                whole = store.make(Store.BUILT, Store.whichOf(function), 1 + all);
            }
            for (int k = 0; k < all; k++) {
                store.setField(whole, (few ? 2 : 1) + k, given(k));
            }
            store.arguments = 0;
            value = whole;
            return true;
        }

        private boolean say() {
            long first = given(0);
            long second = given(1);
            store.arguments = 0;
            if (!store.push(SAYING, 0)) {
                state = DEEP;
                return false;
            }
            store.keep(second);
            store.nextThingIs(first);
            return false;
        }

        private void enter(long function) {
            int node;
            if (Store.kindOf(function) == Store.FUNCTION) {
                node = told.maker[Store.whichOf(function)];
            } else {
                node = store.objectOf(function);
                store.release(function, 1, node);
            }
            int row = tree.b[node];
            for (int name = told.first[row]; name >= 0; name = told.next[name]) {
                store.variable[name] = given(told.place[name]);
            }
            store.nextNode = tree.a[node];
        }

        /** Shows the value, or its first sign and what is ahead of its first field. */
        private void show() {
            int con = store.conOf(value);
            if (con >= 0 && datas.conFields[con] > 0) {
                showFields(con);
                return;
            }
            if (Store.kindOf(value) == Store.NUMBER) {
                text.putNumber(Store.whichOf(value));
            } else if (con < 0) {
                text.putWord("fun");
            } else if (con == Datas.EMPTY) {
                text.putWord("[]");
            } else {
                text.putSymbol(datas.symbolOfCon(con));
            }
            goOn();
        }

        private void showFields(int con) {
            if (!store.push(con == Datas.CONS ? LIST_FIRST : FIELDS, con)) {
                state = DEEP;
                return;
            }
            for (int k = datas.conFields[con]; k > 1; k--) {
                store.keep(store.field(value, k));
            }
            text.put(con == Datas.CONS ? '[' : '(');
            if (con >= Datas.OWN) {
                text.putSymbol(datas.symbolOfCon(con));
                text.put(' ');
            }
            store.nextThingIs(store.field(value, 1));
        }

        /** The rest of a list takes the place of what is ahead of it. */
        private void showRest() {
            if (store.conOf(value) == Datas.CONS) {
                text.put(',');
                store.setTopKind(LIST_FIRST);
                store.keep(store.field(value, 2));
                store.nextThingIs(store.field(value, 1));
                return;
            }
            text.put(']');
            store.pop();
            goOn();
        }

        /** Comes to the next field behind one that was shown. */
        private void goOn() {
            for (int n = 0; n < MANY && store.frames > 0; n++) {
                if (store.topHolds() > 0) {
                    if (store.topKind() == LIST_FIRST) {
                        store.setTopKind(LIST_REST);
                    } else {
                        text.put(store.topNode() == Datas.PAIR ? ',' : ' ');
                    }
                    store.nextThingIs(store.drop());
                    return;
                }
                text.put(')');
                store.pop();
            }
            state = SHOWN;
        }
    }
}
