/**
 * A house of ML: a text of a small ML is read, its types are found, and it is run by a machine of
 * its own (how 0) or compiled into words of MIPS I for a simulated processor (how 1 and 2).
 * What it promises stands in DOC.md; all rows are made in the constructors and used again.
 */
public final class LeanHouse {
    public static final int NONE = -1;

    private static final int TEXT_MOST = 8192;
    private static final int TOKENS_MOST = 2000;
    private static final int OPEN_MOST = 40;
    private static final int CONS_MOST = 60;
    private static final int TYPES_MOST = 30;
    private static final int FIELDS_MOST = 30;
    private static final int ATPATS_MOST = 12;
    private static final int VARIABLES_MOST = 100;
    private static final int PARTS_MOST = 100;
    private static final int PILE_MOST = 6000;
    private static final int KEPT_MOST = 2000;
    private static final int WRITTEN_MOST = 1900;
    private static final int NESTED_MOST = 20;
    private static final int INPUT_MOST = 100;
    private static final int STEPS_MOST = 20000;
    private static final int HEAP_LEAST = 16;
    private static final int HEAP_MOST = 4096;

    private static final int TOKEN = 1;
    private static final int SYNTAX = 2;
    private static final int NAME = 3;
    private static final int AGAIN = 4;
    private static final int TYPE = 5;
    private static final int ARITY = 6;
    private static final int MANY = 7;

    private static final int VALUE = 0;
    private static final int RAISED = 1;
    private static final int STEPS = 2;
    private static final int HEAP = 3;
    private static final int PILE = 4;
    private static final int NOT_ENDED = -1;

    // The memory that the machine and the processor share, in words: what stands where.
    private static final int TEMPS = 16;
    private static final int KEPT = 144;
    private static final int CELLS = 272;
    private static final int DIGITS = 320;
    private static final int INPUT = 336;
    private static final int OUTPUT = 448;
    private static final int LITERALS = 960;
    private static final int PILE_BASE = 5632;
    private static final int PILE_END = PILE_BASE + PILE_MOST;
    private static final int HEAP_A = 11648;
    private static final int HEAP_B = HEAP_A + HEAP_MOST;
    private static final int WORDS = HEAP_B + HEAP_MOST;
    private static final int WORDS_MOST = 262144;
    private static final int MEMORY = WORDS + WORDS_MOST;

    // Cells of the memory that have a meaning of their own.
    private static final int CELL_SPACE = CELLS;
    private static final int CELL_OTHER = CELLS + 1;
    private static final int CELL_SIZE = CELLS + 2;
    private static final int CELL_COLLECTIONS = CELLS + 3;
    private static final int CELL_OUT = CELLS + 4;
    private static final int CELL_INPUTS = CELLS + 5;
    private static final int CELL_STEPS = CELLS + 6;
    private static final int CELL_SAVED = CELLS + 7;

    // A value is one word: numbers are odd, addresses of objects end in 00, constants in 10.
    private static final int CONSTANT = 2;
    private static final int CON_FUNCTION = 4096 + 2;
    private static final int KNOWN_FUNCTION = 8192 + 2;
    private static final int UNIT_WORD = 12288 + 2;
    private static final int CLASS_MASK = ~4095;

    // The head of an object: what it is in bits 1 and 2, and how much (or which) above them.
    private static final int HEAD_TUPLE = 1;
    private static final int HEAD_CON = 3;
    private static final int HEAD_STRING = 5;
    private static final int HEAD_FUNCTION = 7;
    private static final int REF_CON = 1000;

    private static final int CON_TRUE = 0;
    private static final int CON_FALSE = 1;
    private static final int CON_NIL = 2;
    private static final int CON_CONS = 3;
    private static final int CON_MATCH = 4;
    private static final int CON_BIND = 5;
    private static final int CON_DIV = 6;
    private static final int CON_SUBSCRIPT = 7;
    private static final int CON_CHR = 8;
    private static final int CONS_KNOWN = 9;
    private static final int TRUE_WORD = CON_TRUE * 4 + CONSTANT;
    private static final int FALSE_WORD = CON_FALSE * 4 + CONSTANT;
    private static final int NIL_WORD = CON_NIL * 4 + CONSTANT;

    private static final int FUN_NEGATE = 0;
    private static final int FUN_FETCH = 1;
    private static final int FUN_NOT = 2;
    private static final int FUN_PRINT = 3;
    private static final int FUN_PUT = 4;
    private static final int FUN_STR = 5;
    private static final int FUN_CHR = 6;
    private static final int FUN_SIZE = 7;
    private static final int FUN_SUB = 8;
    private static final int FUN_GIVEN = 9;
    private static final int FUN_MANY = 10;
    private static final int FUN_REF = 11;

    // Tokens: a word that is no name has its place among the known names as its kind.
    private static final int W_AND = 0;
    private static final int W_ANDALSO = 1;
    private static final int W_AS = 2;
    private static final int W_CASE = 3;
    private static final int W_DATATYPE = 4;
    private static final int W_DIV = 5;
    private static final int W_DO = 6;
    private static final int W_ELSE = 7;
    private static final int W_END = 8;
    private static final int W_EXCEPTION = 9;
    private static final int W_FN = 10;
    private static final int W_FUN = 11;
    private static final int W_HANDLE = 12;
    private static final int W_IF = 13;
    private static final int W_IN = 14;
    private static final int W_LET = 15;
    private static final int W_MOD = 16;
    private static final int W_OF = 17;
    private static final int W_ORELSE = 18;
    private static final int W_RAISE = 19;
    private static final int W_REC = 20;
    private static final int W_REF = 21;
    private static final int W_THEN = 22;
    private static final int W_VAL = 23;
    private static final int W_WHILE = 24;
    private static final int WORDS_KNOWN = 25;
    private static final int K_NAME = 25;
    private static final int K_VARIABLE = 26;
    private static final int K_NUMBER = 27;
    private static final int K_STRING = 28;
    private static final int K_UNDER = 29;
    private static final int K_OPEN = 30;
    private static final int K_CLOSE = 31;
    private static final int K_LIST = 32;
    private static final int K_LISTED = 33;
    private static final int K_COMMA = 34;
    private static final int K_SEMI = 35;
    private static final int K_COLON = 36;
    private static final int K_BAR = 37;
    private static final int K_EQUAL = 38;
    private static final int K_GIVES = 39;
    private static final int K_ARROW = 40;
    private static final int K_STAR = 41;
    private static final int K_PLUS = 42;
    private static final int K_MINUS = 43;
    private static final int K_JOIN = 44;
    private static final int K_CONS = 45;
    private static final int K_ASSIGN = 46;
    private static final int K_LESS = 47;
    private static final int K_MORE = 48;
    private static final int K_ATMOST = 49;
    private static final int K_ATLEAST = 50;
    private static final int K_DIFFERS = 51;
    private static final int K_FETCH = 52;
    private static final int K_NEGATE = 53;
    private static final int K_TEXT_END = 54;
    private static final int K_STOP = 55;

    private static final String KNOWN_NAMES = "and andalso as case datatype div do else end exception fn fun handle if in let mod of orelse raise rec ref then val while int bool unit string exn list true false nil :: Match Bind Div Subscript Chr ~ ! not print put str chr size sub given many ";
    private static final int N_TYPES = 25;
    private static final int N_CONS = 31;
    private static final int N_FUNCTIONS = 40;
    private static final int NAMES_KNOWN = 51;
    private static final int NAMES_MOST = 2176;

    private static final int TYPE_ARROW = 0;
    private static final int TYPE_INT = 2;
    private static final int TYPE_BOOL = 3;
    private static final int TYPE_UNIT = 4;
    private static final int TYPE_STRING = 5;
    private static final int TYPE_EXN = 6;
    private static final int TYPE_LIST = 7;
    private static final int TYPE_REF = 8;
    private static final int KINDS_KNOWN = 9;
    private static final int TYPE_PRODUCT = 64;

    // What a program is when its tokens have been looked at: a row of marks in the order of the
    // text. E_ are expressions, R_ rules of a MATCH, P_ patterns, T_ types, D_ declarations, C_ clauses.
    private static final int E_LOW = 1;
    private static final int E_TRY = 2;
    private static final int E_NUMBER = 3;
    private static final int E_STRING = 4;
    private static final int E_UNIT = 5;
    private static final int E_NAME = 6;
    private static final int E_KNOWN = 7;
    private static final int E_APPLY = 8;
    private static final int E_OPERATOR = 9;
    private static final int E_AND_MID = 10;
    private static final int E_AND = 11;
    private static final int E_OR_MID = 12;
    private static final int E_OR = 13;
    private static final int E_TYPED = 14;
    private static final int E_TUPLE = 15;
    private static final int E_ELEMENT = 16;
    private static final int E_LIST = 17;
    private static final int E_PASSED = 18;
    private static final int E_SEQUENCE = 19;
    private static final int E_THEN = 20;
    private static final int E_ELSE = 21;
    private static final int E_IF_END = 22;
    private static final int E_WHILE = 23;
    private static final int E_DO = 24;
    private static final int E_WHILE_END = 25;
    private static final int E_RAISE = 26;
    private static final int E_CASE = 27;
    private static final int E_CASE_END = 28;
    private static final int E_FN = 29;
    private static final int E_FN_END = 30;
    private static final int E_HANDLE = 31;
    private static final int E_HANDLE_END = 32;
    private static final int E_LET = 33;
    private static final int E_LET_END = 34;
    private static final int E_LAST = 35;
    private static final int R_BEGIN = 36;
    private static final int R_GIVES = 37;
    private static final int R_END = 38;
    private static final int P_MARK = 40;
    private static final int P_CONS = 41;
    private static final int P_CONS_MID = 42;
    private static final int P_CONS_END = 43;
    private static final int P_ANY = 44;
    private static final int P_NAME = 45;
    private static final int P_NUMBER = 46;
    private static final int P_UNIT = 47;
    private static final int P_OPEN = 48;
    private static final int P_FIELD = 49;
    private static final int P_CLOSE = 50;
    private static final int P_CON = 51;
    private static final int P_CON_END = 52;
    private static final int P_LIST = 53;
    private static final int P_ITEM = 54;
    private static final int P_ITEM_END = 55;
    private static final int P_LIST_END = 56;
    private static final int P_AS = 57;
    private static final int P_AS_END = 58;
    private static final int P_TYPED = 59;
    private static final int T_VARIABLE = 60;
    private static final int T_NAME = 61;
    private static final int T_PRODUCT = 62;
    private static final int T_ARROW = 63;
    private static final int D_VAL = 70;
    private static final int D_VAL_EQUAL = 71;
    private static final int D_VAL_END = 72;
    private static final int D_REC = 73;
    private static final int D_REC_END = 74;
    private static final int D_FUN = 75;
    private static final int D_FUNCTION = 76;
    private static final int D_FUNCTION_END = 77;
    private static final int D_FUN_END = 78;
    private static final int C_CLAUSE = 79;
    private static final int C_ATPAT = 80;
    private static final int C_TYPE = 81;
    private static final int C_EQUAL = 82;
    private static final int C_END = 83;
    private static final int D_DATATYPE = 84;
    private static final int D_TYPE = 85;
    private static final int D_VARIABLE = 86;
    private static final int D_CON = 87;
    private static final int D_CON_END = 88;
    private static final int D_EXCEPTION = 89;
    private static final int D_EXCEPTION_END = 90;
    private static final int C_ARGUMENT = 91;

    private static int at(int[] row, int k) {
        return k >= 0 && k < row.length ? row[k] : 0;
    }

    private static void put(int[] row, int k, int v) {
        if (k >= 0 && k < row.length) row[k] = v;
    }

    private static int byteIn(byte[] row, int k) {
        return k >= 0 && k < row.length ? row[k] & 255 : 0;
    }

    private static void putByte(byte[] row, int k, int v) {
        if (k >= 0 && k < row.length) row[k] = (byte) v;
    }

    /** Tokens of the text, one at a time, and the names that were met, each with a number. */
    private static final class Lexer {
        private static final int HEADS = 512;
        private static final int POOL = 12288;
        private static final int NAME_MOST = 31;
        private static final int STRING_MOST = 200;
        private static final long NUMBER_CAP = 1L << 32;
        private static final long NUMBER_MOST = 1L << 30;

        private final byte[] text;
        private final byte[] pool = new byte[POOL];
        private final byte[] scratch = new byte[STRING_MOST + 1];
        private final int[] nameAt = new int[NAMES_MOST];
        private final int[] nameSize = new int[NAMES_MOST];
        private final int[] heads = new int[HEADS];
        private final int[] nexts = new int[NAMES_MOST];
        private int names;
        private int poolSize;
        private int knownSize;
        private int textSize;
        private int here;
        private int tokens;
        int kind;
        int start;
        int meaning;
        int trouble;
        private int spelled;

        Lexer(byte[] text) {
            this.text = text;
            for (int k = 0; k < HEADS; k++) put(heads, k, NONE);
            int size = 0;
            for (int k = 0; k < KNOWN_NAMES.length(); k++) {
                char c = KNOWN_NAMES.charAt(k);
                if (c != ' ') {
                    putByte(scratch, size++, c);
                } else {
                    intern(size);
                    size = 0;
                }
            }
            knownSize = poolSize;
        }

        void open(int size) {
            textSize = size;
            here = 0;
            tokens = 0;
            trouble = 0;
            kind = K_STOP;
            start = 0;
            forget();
        }

        int named() {
            return names;
        }

        int sizeOf(int name) {
            return at(nameSize, name);
        }

        int letterOf(int name, int k) {
            return byteIn(pool, at(nameAt, name) + k);
        }

        /** Names of the program before go; in each chain they stand ahead of those known ahead. */
        private void forget() {
            for (int k = 0; k < HEADS; k++) {
                int name = at(heads, k);
                for (int n = 0; n < NAMES_MOST && name >= NAMES_KNOWN; n++) name = at(nexts, name);
                put(heads, k, name);
            }
            names = NAMES_KNOWN;
            poolSize = knownSize;
        }

        /** The number of the name whose bytes stand in the scratch row. */
        private int intern(int size) {
            int hash = 0;
            for (int k = 0; k < size; k++) hash = hash * 31 + byteIn(scratch, k);
            hash &= HEADS - 1;
            int name = at(heads, hash);
            for (int n = 0; n < NAMES_MOST && name >= 0; n++) {
                int from = at(nameAt, name);
                int same = 0;
                while (same < size && byteIn(pool, from + same) == byteIn(scratch, same)) same++;
                if (same == size && at(nameSize, name) == size) return name;
                name = at(nexts, name);
            }
            name = names++;
            put(nameAt, name, poolSize);
            put(nameSize, name, size);
            for (int k = 0; k < size; k++) putByte(pool, poolSize + k, byteIn(scratch, k));
            poolSize += size;
            put(nexts, name, at(heads, hash));
            put(heads, hash, name);
            return name;
        }

        private int peek(int k) {
            return k >= 0 && k < textSize && k < text.length ? text[k] & 255 : NONE;
        }

        private static boolean isLetter(int b) {
            return b >= 'a' && b <= 'z' || b >= 'A' && b <= 'Z';
        }

        private static boolean isDigit(int b) {
            return b >= '0' && b <= '9';
        }

        private static boolean isNamePart(int b) {
            return b >= 'a' && b <= 'z' || b >= 'A' && b <= 'Z' || b >= '0' && b <= '9' || b == '_' || b == '\'';
        }

        /** Comes to the next token; a fault is left in trouble, with its place in start. */
        void step() {
            if (trouble != 0) return;
            skipBlanks();
            if (trouble == 0) {
                start = here;
                int b = peek(here);
                if (b < 0) {
                    kind = K_TEXT_END;
                    return;
                }
                spelled = NONE;
                if (isLetter(b)) word(K_NAME);
                else if (isDigit(b) || b == '~' && beginsNumber()) number();
                else if (b == '\'') word(K_VARIABLE);
                else if (b == '"') string();
                else symbol(b);
                if (spelled >= 0) meaning = intern(spelled);
                if (kind == K_NAME && meaning < WORDS_KNOWN) kind = meaning;
                tokens++;
                if (trouble == 0 && tokens > TOKENS_MOST) trouble = MANY;
            }
            if (trouble != 0) kind = K_STOP;
        }

        /** Blanks and comments; of a comment that is open at the end the place is its begin. */
        private void skipBlanks() {
            int open = 0;
            for (int n = 0; n <= TEXT_MOST; n++) {
                int b = peek(here);
                int c = peek(here + 1);
                if (b == '(' && c == '*') {
                    if (open == 0) start = here;
                    open++;
                    here += 2;
                } else if (open > 0 && b == '*' && c == ')') {
                    open--;
                    here += 2;
                } else if (b == 9 || b == 10 || b == 32 || open > 0 && b >= 0) {
                    here++;
                } else {
                    if (open > 0) trouble = TOKEN;
                    return;
                }
            }
        }

        private boolean beginsNumber() {
            int left = peek(here - 1);
            return isDigit(peek(here + 1)) && !isNamePart(left) && left != ')';
        }

        /** A name into the scratch row; a type variable has a sign ahead of it. */
        private void word(int what) {
            kind = what;
            if (what == K_VARIABLE) here++;
            int size = 0;
            boolean none = !isLetter(peek(here));
            for (int n = 0; n <= TEXT_MOST && isNamePart(peek(here)); n++) {
                putByte(scratch, size, peek(here));
                size++;
                here++;
            }
            if (none || size > NAME_MOST) trouble = TOKEN;
            else spelled = size;
        }

        private void number() {
            boolean below = peek(here) == '~';
            if (below) here++;
            long sum = 0;
            for (int n = 0; n <= TEXT_MOST && isDigit(peek(here)); n++) {
                if (sum < NUMBER_CAP) sum = sum * 10 + (peek(here) - '0');
                here++;
            }
            if (isNamePart(peek(here)) || sum > NUMBER_MOST || sum == NUMBER_MOST && !below) {
                trouble = TOKEN;
                return;
            }
            kind = K_NUMBER;
            meaning = (int) (below ? -sum : sum);
        }

        private void string() {
            here++;
            int size = 0;
            for (int n = 0; n <= TEXT_MOST; n++) {
                int b = peek(here);
                if (b == '"') {
                    here++;
                    kind = K_STRING;
                    spelled = size;
                    return;
                }
                int meant = b == 9 || b == 10 || b >= 32 && b <= 126 ? b : NONE;
                if (b == '\\') {
                    here++;
                    int c = peek(here);
                    int code = codeHere();
                    meant = c == 'n' ? 10 : c == 't' ? 9 : c == '\\' || c == '"' ? c : code;
                    if (meant == code) here += 2;
                }
                here++;
                if (meant < 0 || size >= STRING_MOST) break;
                putByte(scratch, size, meant);
                size++;
            }
            trouble = TOKEN;
        }

        /** What three digits here mean, or NONE. */
        private int codeHere() {
            int sum = 0;
            for (int k = 0; k < 3; k++) {
                int where = here + k;
                int b = where >= 0 && where < textSize && where < text.length ? text[where] : NONE;
                if (b < '0' || b > '9') return NONE;
                sum = sum * 10 + b - '0';
            }
            return sum <= 255 ? sum : NONE;
        }

        private void symbol(int b) {
            int c = peek(here + 1);
            kind = b == '=' && c == '>' ? K_GIVES : b == '-' && c == '>' ? K_ARROW : b == ':' && c == ':' ? K_CONS
                : b == ':' && c == '=' ? K_ASSIGN : b == '<' && c == '=' ? K_ATMOST : b == '<' && c == '>' ? K_DIFFERS
                : b == '>' && c == '=' ? K_ATLEAST : NONE;
            if (kind >= 0) {
                here += 2;
                return;
            }
            kind = shortSymbol(b);
            here++;
            if (kind < 0) trouble = TOKEN;
        }

        private static int shortSymbol(int b) {
            switch (b) {
                case '_': return K_UNDER;
                case '(': return K_OPEN;
                case ')': return K_CLOSE;
                case '[': return K_LIST;
                case ']': return K_LISTED;
                case ',': return K_COMMA;
                case ';': return K_SEMI;
                case ':': return K_COLON;
                case '|': return K_BAR;
                case '=': return K_EQUAL;
                case '*': return K_STAR;
                case '+': return K_PLUS;
                case '-': return K_MINUS;
                case '^': return K_JOIN;
                case '<': return K_LESS;
                case '>': return K_MORE;
                case '!': return K_FETCH;
                case '~': return K_NEGATE;
                default: return NONE;
            }
        }
    }

    /** Tokens into a row of marks (what each is, what it says, its place, what was found of it), or the first fault. */
    private static final class Parser {
        static final int MARKS = 10240;
        private static final int WAITING = 1024;
        private static final int STRONGEST = 8;

        final int[] op = new int[MARKS];
        final int[] says = new int[MARKS];
        final int[] places = new int[MARKS];
        final int[] link = new int[MARKS];
        final int[] home = new int[MARKS];
        int marks;

        private final Lexer lexer;
        private final int[] waiting = new int[WAITING];
        private final int[] waitingAt = new int[WAITING];
        private int waits;
        private int open;
        private int cons;
        private int types;

        Parser(Lexer lexer) {
            this.lexer = lexer;
        }

        /** Whether the text is a program by its tokens; else the lexer tells the trouble and where it starts. */
        boolean parse(int size) {
            marks = 0;
            waits = 0;
            open = 0;
            cons = 0;
            types = 0;
            lexer.open(size);
            lexer.step();
            for (int n = 0; n <= TOKENS_MOST; n++) {
                decs(1);
                if (lexer.kind == W_DATATYPE) datatypeDec();
                else if (lexer.kind == W_EXCEPTION) exceptionDec();
                else break;
                if (lexer.kind == K_SEMI) lexer.step();
            }
            need(W_IN);
            add(E_LAST, 0, 0);
            exp();
            if (lexer.kind != K_TEXT_END) fail(SYNTAX);
            return lexer.trouble == 0;
        }

        private int add(int kind, int say, int where) {
            int k = marks;
            if (k >= MARKS) return k;
            put(op, k, kind);
            put(says, k, say);
            put(places, k, where);
            put(link, k, NONE);
            put(home, k, NONE);
            marks++;
            return k;
        }

        private void fail(int what) {
            if (lexer.trouble == 0) lexer.trouble = what;
            lexer.kind = K_STOP;
        }

        private void need(int kind) {
            if (lexer.kind == kind) lexer.step();
            else fail(SYNTAX);
        }

        /** The token here opens something: false if too much is open already. */
        private boolean enter() {
            if (open >= OPEN_MOST) {
                fail(MANY);
                return false;
            }
            open++;
            return true;
        }

        private static boolean beginsWide(int kind) {
            return kind == W_FN || kind == W_CASE || kind == W_IF || kind == W_WHILE || kind == W_RAISE;
        }

        private static boolean beginsAtom(int kind) {
            return kind == K_NAME || kind == K_NUMBER || kind == K_STRING || kind == K_NEGATE || kind == K_FETCH
                || kind == W_REF || kind == K_OPEN || kind == K_LIST || kind == W_LET;
        }

        private static boolean beginsAtpat(int kind) {
            return kind == K_UNDER || kind == K_NAME || kind == K_NUMBER || kind == K_OPEN || kind == K_LIST;
        }

        private static boolean beginsType(int kind) {
            return kind == K_VARIABLE || kind == K_NAME || kind == W_REF || kind == K_OPEN;
        }

        /** Declarations that may stand anywhere; first is 1 for outermost ones. */
        private void decs(int first) {
            for (int n = 0; n <= TOKENS_MOST; n++) {
                if (lexer.kind == W_VAL) valDec(first);
                else if (lexer.kind == W_FUN) funDec(first);
                else return;
                if (lexer.kind == K_SEMI) lexer.step();
            }
        }

        private void valDec(int first) {
            lexer.step();
            if (lexer.kind == W_REC) {
                recDec(first);
                return;
            }
            int dec = add(D_VAL, first, lexer.start);
            pat();
            put(link, dec, add(D_VAL_EQUAL, 0, lexer.start));
            int equal = lexer.start;
            need(K_EQUAL);
            exp();
            add(D_VAL_END, first, equal);
        }

        private void recDec(int first) {
            lexer.step();
            int dec = add(D_REC, lexer.meaning, lexer.start);
            put(link, dec, first);
            need(K_NAME);
            int equal = lexer.start;
            need(K_EQUAL);
            if (lexer.kind == W_FN) exp();
            else fail(SYNTAX);
            put(link, add(D_REC_END, first, equal), dec);
        }

        /** Each turn is a clause; the word ahead of it tells whether it begins a function. */
        private void funDec(int first) {
            int dec = add(D_FUN, first, lexer.start);
            int fun = dec;
            int ahead = W_FUN;
            for (int n = 0; n <= TOKENS_MOST; n++) {
                lexer.step();
                if (ahead != K_BAR) {
                    put(link, fun, add(D_FUNCTION, lexer.meaning, lexer.start));
                    fun = at(link, fun);
                }
                int name = lexer.start;
                int clause = add(C_CLAUSE, lexer.meaning, name);
                need(K_NAME);
                int atpats = 0;
                for (int m = 0; m <= ATPATS_MOST && beginsAtpat(lexer.kind); m++) {
                    if (m == ATPATS_MOST) fail(MANY);
                    add(C_ARGUMENT, m, 0);
                    atpat();
                    add(C_ATPAT, m, name);
                    atpats++;
                }
                put(link, clause, atpats);
                if (atpats == 0) fail(SYNTAX);
                if (lexer.kind == K_COLON) {
                    lexer.step();
                    type();
                    add(C_TYPE, 0, name);
                }
                int equal = lexer.start;
                need(K_EQUAL);
                add(C_EQUAL, 0, equal);
                exp();
                add(C_END, 0, equal);
                ahead = lexer.kind;
                if (ahead != K_BAR) put(link, add(D_FUNCTION_END, 0, 0), fun);
                if (ahead != K_BAR && ahead != W_AND) break;
            }
            put(link, add(D_FUN_END, first, 0), dec);
        }

        private void datatypeDec() {
            int dec = add(D_DATATYPE, 0, lexer.start);
            int last = dec;
            for (int n = 0; n <= TOKENS_MOST; n++) {
                lexer.step();
                int kind = add(D_TYPE, 0, 0);
                put(link, last, kind);
                last = kind;
                typeVariables(kind);
                put(says, kind, lexer.meaning);
                put(places, kind, lexer.start);
                if (lexer.kind == K_NAME && types++ >= TYPES_MOST) fail(MANY);
                need(K_NAME);
                if (lexer.kind != K_EQUAL) fail(SYNTAX);
                for (int m = 0; m <= TOKENS_MOST && (m == 0 ? lexer.kind == K_EQUAL : lexer.kind == K_BAR); m++) {
                    lexer.step();
                    con(D_CON, D_CON_END);
                }
                if (lexer.kind != W_AND) return;
            }
        }

        private void typeVariables(int kind) {
            int variables = 0;
            if (lexer.kind == K_VARIABLE) {
                add(D_VARIABLE, lexer.meaning, lexer.start);
                lexer.step();
                variables = 1;
            } else if (lexer.kind == K_OPEN) {
                for (int n = 0; n <= TOKENS_MOST && (n == 0 || lexer.kind == K_COMMA); n++) {
                    lexer.step();
                    add(D_VARIABLE, lexer.meaning, lexer.start);
                    need(K_VARIABLE);
                    variables++;
                }
                need(K_CLOSE);
            }
            put(home, kind, variables);
        }

        private void exceptionDec() {
            lexer.step();
            con(D_EXCEPTION, D_EXCEPTION_END);
        }

        private void con(int begin, int end) {
            int con = add(begin, lexer.meaning, lexer.start);
            if (lexer.kind == K_NAME && cons++ >= CONS_MOST) fail(MANY);
            need(K_NAME);
            int argument = 0;
            if (lexer.kind == W_OF) {
                lexer.step();
                type();
                argument = 1;
            }
            put(home, con, argument);
            put(link, add(end, argument, 0), con);
        }

        private void type() {
            product();
            if (lexer.kind == K_ARROW && enter()) {
                lexer.step();
                type();
                add(T_ARROW, 0, 0);
                open--;
            }
        }

        private void product() {
            int parts = 1;
            typeAtom();
            for (int n = 0; n <= TOKENS_MOST && lexer.kind == K_STAR; n++) {
                lexer.step();
                if (parts == FIELDS_MOST && beginsType(lexer.kind)) fail(MANY);
                typeAtom();
                parts++;
            }
            if (parts > 1) add(T_PRODUCT, parts, 0);
        }

        private void typeAtom() {
            int kind = lexer.kind;
            int ahead = 1;
            if (kind == K_VARIABLE) {
                add(T_VARIABLE, lexer.meaning, lexer.start);
                lexer.step();
            } else if (kind == K_NAME || kind == W_REF) {
                ahead = 0;
            } else if (kind == K_OPEN && enter()) {
                int parts = 0;
                for (int n = 0; n <= TOKENS_MOST && (n == 0 || lexer.kind == K_COMMA); n++) {
                    lexer.step();
                    type();
                    parts++;
                }
                if (lexer.kind == K_CLOSE) lexer.step();
                else fail(SYNTAX);
                open--;
                if (parts > 1 && lexer.kind != K_NAME && lexer.kind != W_REF) fail(SYNTAX);
                ahead = parts;
            } else {
                fail(SYNTAX);
            }
            for (int n = 0; n <= TOKENS_MOST && (lexer.kind == K_NAME || lexer.kind == W_REF); n++) {
                put(link, add(T_NAME, lexer.meaning, lexer.start), ahead);
                lexer.step();
                ahead = 1;
            }
        }

        private void pat() {
            consPat();
            if (lexer.kind == K_COLON) {
                int colon = lexer.start;
                lexer.step();
                type();
                add(P_TYPED, 0, colon);
            }
        }

        private void consPat() {
            int mark = add(P_MARK, 0, 0);
            pat2();
            if (lexer.kind == K_CONS && enter()) {
                int sign = lexer.start;
                put(op, mark, P_CONS);
                add(P_CONS_MID, 0, sign);
                lexer.step();
                consPat();
                add(P_CONS_END, 0, sign);
                open--;
            }
        }

        private void pat2() {
            if (lexer.kind != K_NAME) {
                atpat();
                return;
            }
            int name = lexer.meaning;
            int where = lexer.start;
            lexer.step();
            if (lexer.kind == W_AS) {
                if (!enter()) return;
                add(P_AS, name, where);
                lexer.step();
                pat();
                add(P_AS_END, 0, where);
                open--;
            } else if (beginsAtpat(lexer.kind)) {
                add(P_CON, name, where);
                atpat();
                add(P_CON_END, 0, where);
            } else {
                add(P_NAME, name, where);
            }
        }

        private void atpat() {
            int where = lexer.start;
            switch (lexer.kind) {
                case K_UNDER:
                    add(P_ANY, 0, where);
                    lexer.step();
                    break;
                case K_NAME:
                    add(P_NAME, lexer.meaning, where);
                    lexer.step();
                    break;
                case K_NUMBER:
                    add(P_NUMBER, lexer.meaning, where);
                    lexer.step();
                    break;
                case K_OPEN:
                    if (enter()) roundPat();
                    break;
                case K_LIST:
                    if (enter()) listPat();
                    break;
                default:
                    fail(SYNTAX);
                    break;
            }
        }

        private void roundPat() {
            lexer.step();
            if (lexer.kind == K_CLOSE) {
                add(P_UNIT, 0, 0);
            } else {
                int mark = add(P_OPEN, 1, 0);
                pat();
                int fields = 1;
                for (int n = 0; n <= TOKENS_MOST && lexer.kind == K_COMMA; n++) {
                    lexer.step();
                    if (fields == FIELDS_MOST && beginsAtpat(lexer.kind)) fail(MANY);
                    add(P_FIELD, fields, 0);
                    pat();
                    fields++;
                }
                put(says, mark, fields);
                add(P_CLOSE, fields, 0);
            }
            need(K_CLOSE);
            open--;
        }

        private void listPat() {
            add(P_LIST, 0, 0);
            lexer.step();
            int items = 0;
            if (lexer.kind != K_LISTED) {
                for (int n = 0; n <= TOKENS_MOST && (n == 0 || lexer.kind == K_COMMA); n++) {
                    if (n > 0) lexer.step();
                    int where = lexer.start;
                    add(P_ITEM, n, where);
                    pat();
                    add(P_ITEM_END, n, where);
                    items++;
                }
            }
            add(P_LIST_END, items, 0);
            need(K_LISTED);
            open--;
        }

        private void match() {
            for (int n = 0; n <= TOKENS_MOST; n++) {
                int patAt = lexer.start;
                add(R_BEGIN, n, 0);
                pat();
                add(R_GIVES, n, patAt);
                need(K_GIVES);
                int expAt = lexer.start;
                exp();
                add(R_END, n, expAt);
                if (lexer.kind != K_BAR) return;
                lexer.step();
            }
        }

        private void exp() {
            switch (lexer.kind) {
                case W_FN:
                    fnExp();
                    break;
                case W_CASE:
                    caseExp();
                    break;
                case W_IF:
                    ifExp();
                    break;
                case W_WHILE:
                    whileExp();
                    break;
                case W_RAISE:
                    raiseExp();
                    break;
                default:
                    int mark = add(E_LOW, 0, 0);
                    low();
                    if (lexer.kind == W_HANDLE && enter()) {
                        put(op, mark, E_TRY);
                        add(E_HANDLE, 0, 0);
                        lexer.step();
                        match();
                        add(E_HANDLE_END, 0, 0);
                        open--;
                    }
                    break;
            }
        }

        private void fnExp() {
            if (!enter()) return;
            int mark = add(E_FN, 0, 0);
            lexer.step();
            match();
            put(link, add(E_FN_END, 0, 0), mark);
            open--;
        }

        private void caseExp() {
            if (!enter()) return;
            lexer.step();
            exp();
            need(W_OF);
            add(E_CASE, 0, 0);
            match();
            add(E_CASE_END, 0, 0);
            open--;
        }

        private void ifExp() {
            if (!enter()) return;
            int ifAt = lexer.start;
            lexer.step();
            exp();
            need(W_THEN);
            add(E_THEN, 0, ifAt);
            exp();
            int elseAt = lexer.start;
            need(W_ELSE);
            add(E_ELSE, 0, 0);
            exp();
            add(E_IF_END, 0, elseAt);
            open--;
        }

        private void whileExp() {
            if (!enter()) return;
            int whileAt = lexer.start;
            add(E_WHILE, 0, 0);
            lexer.step();
            exp();
            need(W_DO);
            add(E_DO, 0, whileAt);
            exp();
            add(E_WHILE_END, 0, 0);
            open--;
        }

        private void raiseExp() {
            if (!enter()) return;
            int raiseAt = lexer.start;
            lexer.step();
            exp();
            add(E_RAISE, 0, raiseAt);
            open--;
        }

        private static int strength(int kind) {
            switch (kind) {
                case W_ORELSE: return 1;
                case W_ANDALSO: return 2;
                case K_COLON: return 3;
                case K_ASSIGN: return 4;
                case K_EQUAL: case K_DIFFERS: case K_LESS: case K_MORE: case K_ATMOST: case K_ATLEAST: return 5;
                case K_CONS: return 6;
                case K_PLUS: case K_MINUS: case K_JOIN: return 7;
                case K_STAR: case W_DIV: case W_MOD: return 8;
                default: return 0;
            }
        }

        private static boolean fromRight(int kind) {
            return kind == W_ORELSE || kind == W_ANDALSO || kind == K_CONS;
        }

        /**
         * Operators; behind what has : TYPE stand only weaker ones. What begins with a word takes all
         * that it can; behind it may only stand := again, if it ends by : TYPE and is the right side of one.
         */
        private void low() {
            int base = waits;
            int strongest = STRONGEST;
            operand();
            for (int n = 0; n <= TOKENS_MOST && strength(lexer.kind) > 0 && strength(lexer.kind) <= strongest; n++) {
                int kind = lexer.kind;
                int where = lexer.start;
                settle(base, kind);
                if (kind == K_COLON) {
                    lexer.step();
                    type();
                    add(E_TYPED, 0, where);
                    strongest = strength(K_COLON);
                } else {
                    if (fromRight(kind) && !enter()) return;
                    put(waiting, waits, kind);
                    put(waitingAt, waits, where);
                    waits++;
                    if (kind == W_ANDALSO) add(E_AND_MID, 0, where);
                    if (kind == W_ORELSE) add(E_OR_MID, 0, where);
                    lexer.step();
                    boolean wide = beginsWide(lexer.kind) && (kind == W_ANDALSO || kind == W_ORELSE || kind == K_ASSIGN);
                    if (wide) exp();
                    else operand();
                    strongest = !wide ? STRONGEST : kind == K_ASSIGN ? strength(K_ASSIGN) : 0;
                }
            }
            settle(base, NONE);
        }

        /** Ends the operators that bind their right side more than the one that comes. */
        private void settle(int base, int coming) {
            int weakest = strength(coming);
            for (int n = 0; n < WAITING && waits > base; n++) {
                int kind = at(waiting, waits - 1);
                int own = strength(kind);
                if (own < weakest || own == weakest && fromRight(kind)) return;
                waits--;
                int mark = kind == W_ANDALSO ? E_AND : kind == W_ORELSE ? E_OR : E_OPERATOR;
                add(mark, kind, at(waitingAt, waits));
                if (fromRight(kind)) open--;
            }
        }

        /** Applications: an ATEXP and those behind it. */
        private void operand() {
            for (int n = 0; n <= TOKENS_MOST; n++) {
                int where = lexer.start;
                int kind = lexer.kind;
                if (!beginsAtom(kind)) {
                    if (n == 0) fail(SYNTAX);
                    return;
                }
                if (kind == K_OPEN) {
                    if (enter()) roundExp();
                } else if (kind == K_LIST) {
                    if (enter()) listExp();
                } else if (kind == W_LET) {
                    if (enter()) letExp();
                } else {
                    leaf(kind, where);
                }
                if (n > 0) add(E_APPLY, 0, where);
            }
        }

        private void leaf(int kind, int where) {
            if (kind == K_NAME) add(E_NAME, lexer.meaning, where);
            else if (kind == K_NUMBER) add(E_NUMBER, lexer.meaning, where);
            else if (kind == K_STRING) add(E_STRING, lexer.meaning, where);
            else add(E_KNOWN, kind == W_REF ? FUN_REF : kind == K_FETCH ? FUN_FETCH : FUN_NEGATE, where);
            lexer.step();
        }

        private void roundExp() {
            lexer.step();
            if (lexer.kind == K_CLOSE) {
                add(E_UNIT, 0, 0);
            } else {
                exp();
                if (lexer.kind == K_COMMA) {
                    int fields = 1;
                    for (int n = 0; n <= TOKENS_MOST && lexer.kind == K_COMMA; n++) {
                        lexer.step();
                        int kind = lexer.kind;
                        if (fields == FIELDS_MOST && (beginsAtom(kind) || beginsWide(kind))) fail(MANY);
                        exp();
                        fields++;
                    }
                    add(E_TUPLE, fields, 0);
                } else if (lexer.kind == K_SEMI) {
                    sequence();
                }
            }
            need(K_CLOSE);
            open--;
        }

        private void sequence() {
            for (int n = 0; n <= TOKENS_MOST && lexer.kind == K_SEMI; n++) {
                add(E_PASSED, 0, 0);
                lexer.step();
                exp();
            }
            add(E_SEQUENCE, 0, 0);
        }

        private void listExp() {
            lexer.step();
            int elements = 0;
            if (lexer.kind != K_LISTED) {
                for (int n = 0; n <= TOKENS_MOST && (n == 0 || lexer.kind == K_COMMA); n++) {
                    if (n > 0) lexer.step();
                    int where = lexer.start;
                    exp();
                    if (n > 0) add(E_ELEMENT, n, where);
                    elements++;
                }
            }
            add(E_LIST, elements, 0);
            need(K_LISTED);
            open--;
        }

        private void letExp() {
            add(E_LET, 0, 0);
            lexer.step();
            decs(0);
            need(W_IN);
            exp();
            for (int n = 0; n <= TOKENS_MOST && lexer.kind == K_SEMI; n++) {
                add(E_PASSED, 0, 0);
                lexer.step();
                exp();
            }
            need(W_END);
            add(E_LET_END, 0, 0);
            open--;
        }
    }

    /** Types as nodes: a variable with its level, or a kind with its parts; made equal by links. */
    private static final class Types {
        static final int CHECK = 0;
        static final int LOWER = 1;
        static final int GENERALISE = 2;

        private static final int NODES = 212992;
        private static final int KINDS = TYPE_PRODUCT + FIELDS_MOST + 1;
        private static final int VARIABLE = -1;
        private static final int LINKED = -2;
        private static final int GENERAL = 1 << 20;
        private static final int GROUND = 0x7fffffff;
        // A scheme is a row of codes: what is below FIRST_NODE is a kind, then nodes, then general variables.
        private static final int FIRST_NODE = 256;
        private static final int FIRST_GENERAL = FIRST_NODE + NODES;

        // What is to be made equal waits in these two; the writer borrows them.
        final int[] left = new int[NODES];
        final int[] right = new int[NODES];
        private final int[] kind = new int[NODES];
        private final int[] says = new int[NODES];
        private final int[] parts = new int[NODES];
        private final int[] mark = new int[NODES];
        private final int[] path = new int[NODES];
        private final int[] turn = new int[NODES];
        private final int[] arity = new int[KINDS];
        private final int[] general = new int[PARTS_MOST + 1];
        private final int[] row = new int[PARTS_MOST + 1];
        private int nodes;
        private int partsSize;
        private int stamp = 2;
        private int waits;
        int level;

        void open() {
            nodes = 0;
            partsSize = 0;
            level = 0;
            for (int k = 0; k < KINDS; k++) put(arity, k, k < TYPE_PRODUCT ? 0 : k - TYPE_PRODUCT);
            put(arity, TYPE_ARROW, 2);
            put(arity, TYPE_LIST, 1);
            put(arity, TYPE_REF, 1);
            for (int k = 0; k < KINDS_KNOWN; k++) put(kind, fresh(0), k);
        }

        void setArity(int type, int count) {
            put(arity, type, count);
        }

        int arityOf(int type) {
            return at(arity, type);
        }

        int fresh(int height) {
            int n = nodes;
            if (n >= NODES) return 0;
            nodes++;
            put(kind, n, VARIABLE);
            put(says, n, height);
            put(mark, n, 0);
            return n;
        }

        /** A type of the kind with the parts that stand in the row from a place on. */
        int make(int what, int[] from, int first) {
            int count = at(arity, what);
            int n = nodes;
            if (count == 0 && what < KINDS_KNOWN) return what;
            if (n >= NODES) return 0;
            nodes++;
            put(kind, n, what);
            put(says, n, partsSize);
            put(mark, n, 0);
            for (int k = 0; k < count; k++) put(parts, partsSize + k, at(from, first + k));
            partsSize += count;
            return n;
        }

        int make1(int what, int part) {
            put(row, 0, part);
            return make(what, row, 0);
        }

        int arrow(int from, int to) {
            put(row, 0, from);
            put(row, 1, to);
            return make(TYPE_ARROW, row, 0);
        }

        /** Where the links of a node lead; the links on the way are made short. */
        int find(int node) {
            int n = node;
            for (int k = 0; k < NODES && n >= 0 && n < NODES && kind[n] == LINKED; k++) n = says[n];
            int m = node;
            for (int k = 0; k < NODES && m >= 0 && m < NODES && kind[m] == LINKED; k++) {
                int next = says[m];
                says[m] = n;
                m = next;
            }
            return n;
        }

        boolean isVariable(int node) {
            return at(kind, node) == VARIABLE;
        }

        int kindOf(int node) {
            return at(kind, node);
        }

        int part(int node, int k) {
            return find(at(parts, at(says, node) + k));
        }

        /** Makes two types equal: false if they can't be, or one would be within itself. */
        boolean equal(int one, int other) {
            waits = 0;
            wait(one, other);
            for (int n = 0; n < NODES && waits > 0; n++) {
                waits--;
                int a = find(at(left, waits));
                int b = find(at(right, waits));
                if (a == b) continue;
                if (at(kind, a) == VARIABLE) {
                    bind(a, b);
                } else if (at(kind, b) == VARIABLE) {
                    bind(b, a);
                } else if (at(kind, a) != at(kind, b)) {
                    return false;
                } else {
                    join(a, b);
                }
            }
            return walk(one, CHECK, 0);
        }

        private void wait(int a, int b) {
            put(left, waits, a);
            put(right, waits, b);
            waits++;
        }

        private void join(int a, int b) {
            int count = at(arity, at(kind, a));
            if (count == 0) return;
            int p = at(says, a);
            int q = at(says, b);
            put(kind, a, LINKED);
            put(says, a, b);
            for (int k = 0; k < count; k++) wait(at(parts, p + k), at(parts, q + k));
        }

        private void bind(int variable, int type) {
            int height = at(says, variable);
            if (at(kind, type) == VARIABLE) {
                if (at(says, type) > height) put(says, type, height);
            } else if (height < level) {
                walk(type, LOWER, height);
            }
            put(kind, variable, LINKED);
            put(says, variable, type);
        }

        /**
         * Goes through a type, each node once. CHECK: whether it is not within itself; LOWER: its
         * variables get this level at most; GENERALISE: those above this level become general, and
         * whether it has general ones. What has no variables is marked and never gone through again.
         */
        boolean walk(int type, int how, int height) {
            stamp += 2;
            int depth = 0;
            boolean found = false;
            int root = find(type);
            if (at(mark, root) == GROUND) return how == CHECK;
            put(path, 0, root);
            put(turn, 0, 0);
            put(mark, root, stamp);
            for (int n = 0; n < 2 * NODES && depth >= 0; n++) {
                int node = at(path, depth);
                int t = at(turn, depth);
                int k = t >> 1;
                int what = at(kind, node);
                if (what != VARIABLE && k < at(arity, what)) {
                    put(turn, depth, t + 2);
                    int next = find(at(parts, at(says, node) + k));
                    int seen = at(mark, next);
                    if (seen == GROUND) continue;
                    if (seen == stamp && how == CHECK) return false;
                    if (seen == stamp || seen == stamp + 1) {
                        put(turn, depth, (t + 2) | 1);
                    } else {
                        depth++;
                        put(path, depth, next);
                        put(turn, depth, 0);
                        put(mark, next, stamp);
                    }
                    continue;
                }
                boolean ground = what != VARIABLE && (t & 1) == 0;
                if (what == VARIABLE && how != CHECK && at(says, node) > height) {
                    put(says, node, how == LOWER ? height : GENERAL);
                    found = true;
                }
                put(mark, node, ground ? GROUND : stamp + 1);
                depth--;
                if (!ground && depth >= 0) put(turn, depth, at(turn, depth) | 1);
            }
            return how == CHECK || found;
        }

        /** Writes a type as codes into a row, parts ahead: how many, or NONE if it has too many parts. */
        int flatten(int type, int[] codes, int first) {
            int size = 0;
            int generals = 0;
            int depth = 0;
            put(path, 0, find(type));
            put(turn, 0, 0);
            for (int n = 0; n < 4 * PARTS_MOST + 4 && depth >= 0; n++) {
                int node = at(path, depth);
                int k = at(turn, depth);
                int what = at(kind, node);
                if (what != VARIABLE && k < at(arity, what)) {
                    if (depth + size > PARTS_MOST) return NONE;
                    put(turn, depth, k + 1);
                    depth++;
                    put(path, depth, find(at(parts, at(says, node) + k)));
                    put(turn, depth, 0);
                    continue;
                }
                if (size >= PARTS_MOST) return NONE;
                int code = what;
                if (what == VARIABLE && at(says, node) != GENERAL) {
                    code = FIRST_NODE + node;
                } else if (what == VARIABLE) {
                    int g = 0;
                    while (g < generals && at(general, g) != node) g++;
                    if (g == generals) put(general, generals++, node);
                    code = FIRST_GENERAL + g;
                }
                put(codes, first + size, code);
                size++;
                depth--;
            }
            return depth < 0 ? size : NONE;
        }

        /** The type that codes tell, with new variables for the general ones. */
        int instance(int[] codes, int first, int size) {
            for (int k = 0; k <= PARTS_MOST; k++) put(general, k, NONE);
            int top = 0;
            for (int k = 0; k < size; k++) {
                int code = at(codes, first + k);
                int node;
                if (code >= FIRST_GENERAL) {
                    int g = code - FIRST_GENERAL;
                    if (at(general, g) < 0) put(general, g, fresh(level));
                    node = at(general, g);
                } else if (code >= FIRST_NODE) {
                    node = code - FIRST_NODE;
                } else {
                    top -= at(arity, code);
                    node = make(code, path, top);
                }
                put(path, top, node);
                top++;
            }
            return at(path, 0);
        }
    }

    /** What can be seen: variables, constructors, names of types; and the functions with what stands in them. */
    private static final class Scope {
        static final int MAIN = 0;

        private static final int SEEN = 8192;
        private static final int VARIABLE_ROW = 6;
        private static final int V_NAME = 0;
        private static final int V_TYPE = 1;
        private static final int V_SCHEME = 2;
        private static final int V_SIZE = 3;
        private static final int V_MARK = 4;
        private static final int V_DEPTH = 5;
        private static final int CON_ROW = 5;
        private static final int C_NAME = 0;
        private static final int C_ARGUMENT_TOO = 1;
        private static final int C_TYPE_NODE = 2;
        private static final int C_SCHEME = 3;
        private static final int C_SIZE = 4;
        private static final int FUNCTION_ROW = 5;
        private static final int F_OWN = 0;
        private static final int F_FIRST = 1;
        private static final int F_LAST = 2;
        private static final int F_COUNT = 3;
        private static final int F_SELF = 4;
        private static final int FUNCTIONS = 1024;
        private static final int HELD = 40960;
        private static final int SCHEMES = 24576;

        private final Types types;
        private final int[] variables = new int[SEEN * VARIABLE_ROW];
        private final int[] schemes = new int[SCHEMES];
        private final int[] cons = new int[(CONS_KNOWN + CONS_MOST + 1) * CON_ROW];
        private final int[] conOf = new int[NAMES_MOST];
        private final int[] typeNames = new int[KINDS_KNOWN + TYPES_MOST + 1];
        private final int[] functions = new int[FUNCTIONS * FUNCTION_ROW];
        private final int[] held = new int[HELD * 2];
        private final int[] around = new int[OPEN_MOST * 2 + 2];
        private int helds;
        private int depth;
        private int functionCount;
        int top;
        int visible;
        int schemeTop;
        int conCount;
        int typeCount;

        Scope(Types types) {
            this.types = types;
            for (int k = 0; k < NAMES_MOST; k++) put(conOf, k, NONE);
        }

        void open() {
            for (int k = 0; k < conCount; k++) put(conOf, conName(k), NONE);
            top = 0;
            visible = 0;
            schemeTop = 0;
            conCount = 0;
            helds = 0;
            depth = 0;
            functionCount = 0;
            put(around, 0, beginFunction(NONE));
            for (int k = 0; k < KINDS_KNOWN; k++) put(typeNames, k, NONE);
            for (int k = TYPE_INT; k < TYPE_REF; k++) put(typeNames, k, N_TYPES + k - TYPE_INT);
            put(typeNames, TYPE_REF, W_REF);
            typeCount = KINDS_KNOWN;
            openCons();
        }

        private void openCons() {
            addCon(N_CONS + CON_TRUE, 0);
            giveCon(CON_TRUE, TYPE_BOOL);
            addCon(N_CONS + CON_FALSE, 0);
            giveCon(CON_FALSE, TYPE_BOOL);
            addCon(N_CONS + CON_NIL, 0);
            giveCon(CON_NIL, types.make1(TYPE_LIST, types.fresh(1)));
            addCon(N_CONS + CON_CONS, 1);
            giveCon(CON_CONS, TYPE_EXN);
            for (int k = CON_MATCH; k < CONS_KNOWN; k++) {
                addCon(N_CONS + k, 0);
                giveCon(k, TYPE_EXN);
            }
        }

        int addCon(int name, int argument) {
            int con = conCount++;
            put(cons, con * CON_ROW + C_NAME, name);
            put(cons, con * CON_ROW + C_ARGUMENT_TOO, argument);
            put(conOf, name, con);
            return con;
        }

        /** Gives a constructor its type: false if that has too many parts. */
        boolean giveCon(int con, int type) {
            int first = con * CON_ROW;
            put(cons, first + C_TYPE_NODE, type);
            put(cons, first + C_SCHEME, schemeTop);
            put(cons, first + C_SIZE, 0);
            if (!types.walk(type, Types.GENERALISE, 0)) return true;
            int size = types.flatten(type, schemes, schemeTop);
            if (size < 0) return false;
            put(cons, first + C_SIZE, size);
            schemeTop += size;
            return true;
        }

        int con(int name) {
            return name >= 0 && name < NAMES_MOST ? conOf[name] : NONE;
        }

        int conName(int con) {
            return at(cons, con * CON_ROW + C_NAME);
        }

        boolean hasArgument(int con) {
            return at(cons, con * CON_ROW + C_ARGUMENT_TOO) != 0;
        }

        int conType(int con) {
            int first = con * CON_ROW;
            int size = at(cons, first + C_SIZE);
            return size == 0 ? at(cons, first + C_TYPE_NODE) : types.instance(schemes, at(cons, first + C_SCHEME), size);
        }

        /** The type of the name, or NONE. */
        int typeOf(int name) {
            for (int k = TYPE_INT; k < typeCount; k++) {
                if (at(typeNames, k) == name) return k;
            }
            return NONE;
        }

        int typeName(int type) {
            return at(typeNames, type);
        }

        void addType(int name, int arity) {
            put(typeNames, typeCount, name);
            types.setArity(typeCount, arity);
            typeCount++;
        }

        boolean standsTwice(int name, int from) {
            for (int k = from; k < top; k++) {
                if (at(variables, k * VARIABLE_ROW + V_NAME) == name) return true;
            }
            return false;
        }

        void addVariable(int name, int type, int mark) {
            int first = top * VARIABLE_ROW;
            put(variables, first + V_NAME, name);
            put(variables, first + V_TYPE, type);
            put(variables, first + V_SIZE, 0);
            put(variables, first + V_MARK, mark);
            put(variables, first + V_DEPTH, depth);
            top++;
            visible++;
        }

        int variableType(int k) {
            return at(variables, k * VARIABLE_ROW + V_TYPE);
        }

        int variableMark(int k) {
            return at(variables, k * VARIABLE_ROW + V_MARK);
        }

        /** The variable that the name stands for, or NONE. */
        int variable(int name) {
            for (int k = top - 1; k >= 0; k--) {
                if (at(variables, k * VARIABLE_ROW + V_NAME) == name) return k;
            }
            return NONE;
        }

        int typeOfVariable(int k) {
            int first = k * VARIABLE_ROW;
            int size = at(variables, first + V_SIZE);
            if (size == 0) return at(variables, first + V_TYPE);
            return types.instance(schemes, at(variables, first + V_SCHEME), size);
        }

        /** Makes a variable's type general: false if that has too many parts. */
        boolean generalise(int k) {
            int first = k * VARIABLE_ROW;
            int type = at(variables, first + V_TYPE);
            if (!types.walk(type, Types.GENERALISE, types.level)) return true;
            int size = types.flatten(type, schemes, schemeTop);
            if (size < 0) return false;
            put(variables, first + V_SCHEME, schemeTop);
            put(variables, first + V_SIZE, size);
            schemeTop += size;
            return true;
        }

        /** Hides the variables from a place on, or shows them again. */
        void turnNames(int from) {
            for (int k = from; k < top; k++) {
                int where = k * VARIABLE_ROW + V_NAME;
                put(variables, where, ~at(variables, where));
            }
        }

        int beginFunction(int own) {
            int f = functionCount++;
            int first = f * FUNCTION_ROW;
            put(functions, first + F_OWN, own);
            put(functions, first + F_FIRST, NONE);
            put(functions, first + F_LAST, NONE);
            put(functions, first + F_COUNT, 0);
            put(functions, first + F_SELF, 0);
            return f;
        }

        void enter(int function) {
            depth++;
            put(around, depth, function);
        }

        void leave() {
            depth--;
        }

        /** A variable stands here: in all the functions between here and where it is bound. */
        void use(int k) {
            int first = k * VARIABLE_ROW;
            int mark = at(variables, first + V_MARK);
            for (int d = at(variables, first + V_DEPTH) + 1; d <= depth; d++) {
                int f = at(around, d);
                if (at(functions, f * FUNCTION_ROW + F_OWN) == mark) put(functions, f * FUNCTION_ROW + F_SELF, 1);
                else if (slotOf(f, mark) < 0) hold(f, mark);
            }
        }

        private void hold(int f, int mark) {
            if (helds >= HELD) return;
            int first = f * FUNCTION_ROW;
            put(held, helds * 2, mark);
            put(held, helds * 2 + 1, NONE);
            int last = at(functions, first + F_LAST);
            if (last < 0) put(functions, first + F_FIRST, helds);
            else put(held, last * 2 + 1, helds);
            put(functions, first + F_LAST, helds);
            put(functions, first + F_COUNT, at(functions, first + F_COUNT) + 1);
            helds++;
        }

        /** Which of the words that a function holds is the variable, or NONE. */
        int slotOf(int f, int mark) {
            int slot = 0;
            int h = at(functions, f * FUNCTION_ROW + F_FIRST);
            for (int n = 0; n < HELD && h >= 0; n++) {
                if (at(held, h * 2) == mark) return slot;
                slot++;
                h = at(held, h * 2 + 1);
            }
            return NONE;
        }

        int firstHeld(int f) {
            return at(functions, f * FUNCTION_ROW + F_FIRST);
        }

        int nextHeld(int h) {
            return at(held, h * 2 + 1);
        }

        int heldMark(int h) {
            return at(held, h * 2);
        }

        int holds(int f) {
            return at(functions, f * FUNCTION_ROW + F_COUNT);
        }

        boolean holdsItself(int f) {
            return at(functions, f * FUNCTION_ROW + F_SELF) != 0;
        }

        int ownMark(int f) {
            return at(functions, f * FUNCTION_ROW + F_OWN);
        }
    }

    /** Names, constructors and types of a program: the first fault of these, or the type of its EXP. */
    private static final class Checker {
        static final int FOR_VARIABLE = 0;
        static final int FOR_CON = 1 << 16;
        static final int FOR_FUNCTION = 2 << 16;

        private static final int STACK = 16384;
        private static final int VALUED = 1;
        private static final int HEAD = 2;
        private static final int IN_ANNOTATION = 0;
        private static final int IN_DATATYPE = 1;
        private static final int IN_EXCEPTION = 2;

        private final Parser parser;
        private final Types types;
        private final Scope scope;
        private final int[] stack = new int[STACK];
        private final int[] flags = new int[STACK];
        private final int[] held = new int[STACK];
        private final int[] variableNode = new int[NAMES_MOST];
        private final int[] variableStamp = new int[NAMES_MOST];
        private int top;
        private int helds;
        private int stamp;
        private int typeMode;
        private int patFrom;
        private int current;
        private int currentResult;
        private int cursor;
        int fault;
        int place;
        int result;

        Checker(Parser parser, Types types, Scope scope) {
            this.parser = parser;
            this.types = types;
            this.scope = scope;
        }

        boolean check() {
            types.open();
            scope.open();
            top = 0;
            helds = 0;
            fault = 0;
            place = NONE;
            typeMode = IN_ANNOTATION;
            stamp++;
            for (int k = 0; k < parser.marks && fault == 0; k++) {
                int op = at(parser.op, k);
                if (op == E_OPERATOR) operator(k);
                else if (op < E_THEN) plain(op, k);
                else if (op < E_CASE) branches(op, at(parser.places, k));
                else if (op < P_MARK) rules(op, k);
                else if (op < T_VARIABLE) pattern(op, k);
                else if (op < D_VAL) type(op, k);
                else if (op < C_CLAUSE) dec(op, k);
                else if (op < D_DATATYPE) clause(op, k);
                else outermost(op, k);
            }
            result = at(stack, 0);
            return fault == 0;
        }

        private void fail(int what, int where) {
            if (fault != 0) return;
            fault = what;
            place = where;
        }

        private void push(int type, int flag) {
            put(stack, top, type);
            put(flags, top, flag);
            top++;
        }

        private int pop() {
            if (top > 0) top--;
            return at(stack, top);
        }

        private void hold(int what) {
            put(held, helds, what);
            helds++;
        }

        private int release() {
            if (helds > 0) helds--;
            return at(held, helds);
        }

        private void same(int one, int other, int where) {
            if (!types.equal(one, other)) fail(TYPE, where);
        }

        private void plain(int op, int k) {
            int say = at(parser.says, k);
            int where = at(parser.places, k);
            switch (op) {
                case E_NUMBER:
                    push(TYPE_INT, VALUED);
                    break;
                case E_STRING:
                    push(TYPE_STRING, VALUED);
                    break;
                case E_UNIT:
                    push(TYPE_UNIT, VALUED);
                    break;
                case E_NAME:
                    name(say, where, k);
                    break;
                case E_KNOWN:
                    push(knownType(say), say == FUN_REF ? 0 : VALUED);
                    break;
                case E_APPLY:
                    apply(where);
                    break;
                case E_AND:
                case E_OR:
                    bothSides(TYPE_BOOL, TYPE_BOOL, TYPE_BOOL, where);
                    break;
                case E_TYPED:
                    int told = pop();
                    // VALUED may it stay, but it is no constructor any more.
                    put(flags, top - 1, at(flags, top - 1) & VALUED);
                    same(at(stack, top - 1), told, where);
                    break;
                case E_TUPLE:
                    gather(TYPE_PRODUCT + say, say);
                    break;
                case E_ELEMENT:
                    int flag = at(flags, top - 1) & at(flags, top - 2) & VALUED;
                    int element = pop();
                    put(flags, top - 1, flag);
                    same(at(stack, top - 1), element, where);
                    break;
                case E_LIST:
                    if (say == 0) push(types.fresh(types.level), VALUED);
                    gather(TYPE_LIST, 1);
                    break;
                case E_PASSED:
                    pop();
                    break;
                case E_SEQUENCE:
                    put(flags, top - 1, 0);
                    break;
                default:
                    break;
            }
        }

        private void branches(int op, int where) {
            switch (op) {
                case E_THEN:
                case E_DO:
                    same(pop(), TYPE_BOOL, where);
                    break;
                case E_IF_END:
                    int other = pop();
                    int one = pop();
                    same(one, other, where);
                    push(one, 0);
                    break;
                case E_WHILE_END:
                    pop();
                    push(TYPE_UNIT, 0);
                    break;
                case E_RAISE:
                    same(pop(), TYPE_EXN, where);
                    push(types.fresh(types.level), 0);
                    break;
                default:
                    break;
            }
        }

        private void name(int name, int where, int k) {
            int con = scope.con(name);
            if (con >= 0) {
                put(parser.link, k, FOR_CON + con);
                push(scope.conType(con), scope.hasArgument(con) ? VALUED | HEAD : VALUED);
                return;
            }
            int variable = scope.variable(name);
            if (variable >= 0) {
                put(parser.link, k, FOR_VARIABLE + scope.variableMark(variable));
                scope.use(variable);
                push(scope.typeOfVariable(variable), VALUED);
                return;
            }
            int function = name - N_FUNCTIONS;
            if (function < 0 || name >= NAMES_KNOWN) {
                fail(NAME, where);
                return;
            }
            put(parser.link, k, FOR_FUNCTION + function);
            push(knownType(function), VALUED);
        }

        private int knownType(int function) {
            switch (function) {
                case FUN_NEGATE:
                    return types.arrow(TYPE_INT, TYPE_INT);
                case FUN_NOT:
                    return types.arrow(TYPE_BOOL, TYPE_BOOL);
                case FUN_PRINT:
                    return types.arrow(TYPE_STRING, TYPE_UNIT);
                case FUN_PUT:
                    return types.arrow(TYPE_INT, TYPE_UNIT);
                case FUN_STR:
                case FUN_CHR:
                    return types.arrow(TYPE_INT, TYPE_STRING);
                case FUN_SIZE:
                    return types.arrow(TYPE_STRING, TYPE_INT);
                case FUN_SUB:
                    push(TYPE_STRING, 0);
                    push(TYPE_INT, 0);
                    gather(TYPE_PRODUCT + 2, 2);
                    return types.arrow(pop(), TYPE_INT);
                case FUN_GIVEN:
                    return types.arrow(TYPE_INT, TYPE_INT);
                case FUN_MANY:
                    return types.arrow(TYPE_UNIT, TYPE_INT);
                default:
                    int any = types.fresh(types.level);
                    int cell = types.make1(TYPE_REF, any);
                    return function == FUN_REF ? types.arrow(any, cell) : types.arrow(cell, any);
            }
        }

        private void apply(int where) {
            int flag = (at(flags, top - 2) & HEAD) != 0 ? at(flags, top - 1) & VALUED : 0;
            int argument = pop();
            int function = types.find(pop());
            int given;
            if (types.kindOf(function) == TYPE_ARROW) {
                given = types.part(function, 1);
                if (!types.equal(types.part(function, 0), argument)) fail(TYPE, where);
                push(given, flag);
                return;
            }
            given = types.fresh(types.level);
            if (!types.isVariable(function) || !types.equal(function, types.arrow(argument, given))) fail(TYPE, where);
            push(given, flag);
        }

        /** Replaces so many types by the one that they are parts of. */
        private void gather(int kind, int parts) {
            int flag = VALUED;
            for (int k = 1; k <= parts; k++) flag &= at(flags, top - k);
            int made = types.make(kind, stack, top - parts);
            top = Math.max(0, top - parts);
            push(made, flag);
        }

        private void bothSides(int left, int right, int made, int where) {
            int b = pop();
            int a = pop();
            if (!types.equal(a, left) || !types.equal(b, right)) fail(TYPE, where);
            push(made, 0);
        }

        private void operator(int k) {
            int where = at(parser.places, k);
            int kind = at(parser.says, k);
            switch (kind) {
                case K_JOIN:
                    bothSides(TYPE_STRING, TYPE_STRING, TYPE_STRING, where);
                    break;
                case K_ASSIGN:
                    int any = types.fresh(types.level);
                    bothSides(types.make1(TYPE_REF, any), any, TYPE_UNIT, where);
                    break;
                case K_CONS:
                    int flag = at(flags, top - 1) & at(flags, top - 2) & VALUED;
                    int list = types.make1(TYPE_LIST, at(stack, top - 2));
                    bothSides(at(stack, top - 2), list, list, where);
                    put(flags, top - 1, flag);
                    break;
                case K_PLUS:
                case K_MINUS:
                case K_STAR:
                case W_DIV:
                case W_MOD:
                    bothSides(TYPE_INT, TYPE_INT, TYPE_INT, where);
                    break;
                default:
                    bothSides(TYPE_INT, TYPE_INT, TYPE_BOOL, where);
                    break;
            }
        }

        private void holdScope() {
            hold(scope.top);
            hold(scope.visible);
            hold(scope.schemeTop);
        }

        private void releaseScope() {
            scope.schemeTop = release();
            scope.visible = release();
            scope.top = release();
        }

        /** A MATCH holds the type of what is matched and that of what its rules give. */
        private void rules(int op, int k) {
            int where = at(parser.places, k);
            switch (op) {
                case E_CASE:
                    hold(pop());
                    hold(NONE);
                    break;
                case E_HANDLE:
                    hold(TYPE_EXN);
                    hold(pop());
                    break;
                case E_FN:
                    int own = k > 0 && at(parser.op, k - 1) == D_REC ? k - 1 : NONE;
                    int function = scope.beginFunction(own);
                    put(parser.link, k, function);
                    scope.enter(function);
                    hold(NONE);
                    hold(NONE);
                    break;
                case E_CASE_END:
                case E_HANDLE_END:
                    int given = release();
                    release();
                    push(given, 0);
                    break;
                case E_FN_END:
                    int to = release();
                    int from = release();
                    scope.leave();
                    push(types.arrow(from, to), VALUED);
                    break;
                case R_BEGIN:
                    holdScope();
                    patFrom = scope.top;
                    break;
                case R_GIVES:
                    ruleMatched(pop(), where);
                    break;
                case R_END:
                    releaseScope();
                    ruleGiven(pop(), where);
                    break;
                case E_LET:
                    holdScope();
                    break;
                case E_LET_END:
                    releaseScope();
                    put(flags, top - 1, 0);
                    break;
                default:
                    types.level = 0;
                    beginDec(1);
                    break;
            }
        }

        private void ruleMatched(int type, int where) {
            int matched = at(held, helds - 5);
            if (matched < 0) put(held, helds - 5, type);
            else if (!types.equal(matched, type)) fail(TYPE, where);
        }

        private void ruleGiven(int type, int where) {
            int given = at(held, helds - 1);
            if (given < 0) put(held, helds - 1, type);
            else if (!types.equal(given, type)) fail(TYPE, where);
        }

        private void declare(int name, int type, int k) {
            int where = at(parser.places, k);
            if (scope.standsTwice(name, patFrom)) fail(AGAIN, where);
            else if (scope.visible >= VARIABLES_MOST) fail(MANY, where);
            scope.addVariable(name, type, k);
        }

        private void pattern(int op, int k) {
            int say = at(parser.says, k);
            int where = at(parser.places, k);
            switch (op) {
                case P_ANY:
                    push(types.fresh(types.level), 0);
                    break;
                case P_NAME:
                    patternName(say, where, k);
                    break;
                case P_NUMBER:
                    push(TYPE_INT, 0);
                    break;
                case P_UNIT:
                    push(TYPE_UNIT, 0);
                    break;
                case P_CLOSE:
                    if (say > 1) gather(TYPE_PRODUCT + say, say);
                    break;
                case P_CON:
                    patternCon(say, where, k);
                    break;
                case P_CON_END:
                    int argument = pop();
                    int con = types.find(pop());
                    int made = types.part(con, 1);
                    same(types.part(con, 0), argument, where);
                    push(made, 0);
                    break;
                case P_ITEM_END:
                    if (say > 0) {
                        int element = pop();
                        same(at(stack, top - 1), element, where);
                    }
                    break;
                case P_LIST_END:
                    if (say == 0) push(types.fresh(types.level), 0);
                    gather(TYPE_LIST, 1);
                    break;
                case P_CONS_END:
                    int list = types.make1(TYPE_LIST, at(stack, top - 2));
                    bothSides(at(stack, top - 2), list, list, where);
                    break;
                case P_AS:
                    if (scope.con(say) >= 0) fail(AGAIN, where);
                    int own = types.fresh(types.level);
                    declare(say, own, k);
                    push(own, 0);
                    break;
                case P_AS_END:
                case P_TYPED:
                    int inner = pop();
                    same(at(stack, top - 1), inner, where);
                    break;
                default:
                    break;
            }
        }

        private void patternName(int name, int where, int k) {
            int con = scope.con(name);
            if (con < 0) {
                int own = types.fresh(types.level);
                put(parser.link, k, FOR_VARIABLE);
                declare(name, own, k);
                push(own, 0);
                return;
            }
            put(parser.link, k, FOR_CON + con);
            if (scope.hasArgument(con)) fail(ARITY, where);
            push(scope.conType(con), 0);
        }

        private void patternCon(int name, int where, int k) {
            int con = scope.con(name);
            if (con < 0) {
                fail(NAME, where);
                return;
            }
            put(parser.link, k, FOR_CON + con);
            if (!scope.hasArgument(con)) fail(ARITY, where);
            push(scope.conType(con), 0);
        }

        private void type(int op, int k) {
            int say = at(parser.says, k);
            int where = at(parser.places, k);
            switch (op) {
                case T_VARIABLE:
                    push(typeVariable(say, where), 0);
                    break;
                case T_NAME:
                    int ahead = at(parser.link, k);
                    int type = scope.typeOf(say);
                    if (type < 0) fail(NAME, where);
                    else if (types.arityOf(type) != ahead) fail(ARITY, where);
                    else gather(type, ahead);
                    break;
                case T_PRODUCT:
                    gather(TYPE_PRODUCT + say, say);
                    break;
                default:
                    gather(TYPE_ARROW, 2);
                    break;
            }
        }

        private int typeVariable(int name, int where) {
            boolean met = at(variableStamp, name) == stamp && typeMode != IN_EXCEPTION;
            if (!met) {
                if (typeMode != IN_ANNOTATION) fail(NAME, where);
                put(variableStamp, name, stamp);
                put(variableNode, name, types.fresh(1));
            }
            return at(variableNode, name);
        }

        private void beginDec(int outermost) {
            if (outermost != 0) {
                stamp++;
                typeMode = IN_ANNOTATION;
            }
            types.level++;
        }

        private void dec(int op, int k) {
            int say = at(parser.says, k);
            int where = at(parser.places, k);
            switch (op) {
                case D_VAL:
                    beginDec(say);
                    patFrom = scope.top;
                    hold(scope.top);
                    hold(scope.visible);
                    break;
                case D_VAL_EQUAL:
                    scope.turnNames(at(held, helds - 2));
                    scope.visible = at(held, helds - 1);
                    break;
                case D_VAL_END:
                    endVal(where);
                    break;
                case D_REC:
                    beginDec(at(parser.link, k));
                    patFrom = scope.top;
                    if (scope.con(say) >= 0) fail(AGAIN, where);
                    declare(say, types.fresh(types.level), k);
                    break;
                case D_REC_END:
                    same(scope.variableType(scope.top - 1), pop(), where);
                    types.level--;
                    if (fault == 0) generalise(scope.top - 1);
                    break;
                case D_FUN:
                    beginDec(say);
                    declareFunctions(k);
                    break;
                case D_FUNCTION:
                    int function = at(parser.home, k);
                    current = k;
                    scope.enter(function);
                    break;
                case D_FUNCTION_END:
                    scope.leave();
                    break;
                case D_FUN_END:
                    endFun(at(parser.link, k));
                    break;
                default:
                    break;
            }
        }

        private void endVal(int where) {
            boolean valued = (at(flags, top - 1) & VALUED) != 0;
            int type = pop();
            int wanted = pop();
            release();
            int first = release();
            if (!types.equal(wanted, type)) fail(TYPE, where);
            types.level--;
            scope.turnNames(first);
            scope.visible += scope.top - first;
            if (fault != 0) return;
            if (!valued) {
                types.walk(wanted, Types.LOWER, types.level);
                return;
            }
            for (int k = first; k < scope.top; k++) generalise(k);
        }

        private void generalise(int variable) {
            if (!scope.generalise(variable)) fail(MANY, at(parser.places, scope.variableMark(variable)));
        }

        private void declareFunctions(int dec) {
            patFrom = scope.top;
            int k = at(parser.link, dec);
            for (int n = 0; n < parser.marks && k >= 0; n++) {
                int name = at(parser.says, k);
                if (scope.con(name) >= 0) fail(AGAIN, at(parser.places, k));
                put(parser.home, k, scope.beginFunction(k));
                int type = types.fresh(types.level);
                int atpats = at(parser.link, k + 1);
                for (int a = 0; a < atpats; a++) type = types.arrow(types.fresh(types.level), type);
                declare(name, type, k);
                k = at(parser.link, k);
            }
        }

        private void endFun(int dec) {
            types.level--;
            int functions = 0;
            int k = at(parser.link, dec);
            for (int n = 0; n < parser.marks && k >= 0; n++) {
                functions++;
                k = at(parser.link, k);
            }
            for (int v = scope.top - functions; v < scope.top; v++) {
                if (fault == 0) generalise(v);
            }
        }

        private void clause(int op, int k) {
            int where = at(parser.places, k);
            switch (op) {
                case C_CLAUSE:
                    hold(current);
                    boolean own = at(parser.says, k) == at(parser.says, current);
                    if (!own || at(parser.link, k) != at(parser.link, current + 1)) fail(AGAIN, where);
                    holdScope();
                    patFrom = scope.top;
                    int function = scope.variable(at(parser.says, current));
                    cursor = types.find(scope.variableType(function));
                    break;
                case C_ATPAT:
                    same(types.part(cursor, 0), pop(), where);
                    cursor = types.part(types.find(cursor), 1);
                    break;
                case C_TYPE:
                    same(cursor, pop(), where);
                    break;
                case C_EQUAL:
                    hold(cursor);
                    break;
                case C_END:
                    int wanted = release();
                    releaseScope();
                    current = release();
                    same(wanted, pop(), where);
                    break;
                default:
                    break;
            }
        }

        private void outermost(int op, int k) {
            int say = at(parser.says, k);
            int where = at(parser.places, k);
            switch (op) {
                case D_DATATYPE:
                    typeMode = IN_DATATYPE;
                    declareTypes(k);
                    break;
                case D_TYPE:
                    current = scope.typeOf(say);
                    currentResult = resultType(k);
                    break;
                case D_CON:
                case D_EXCEPTION:
                    if (op == D_EXCEPTION) typeMode = IN_EXCEPTION;
                    if (scope.con(say) >= 0) fail(AGAIN, where);
                    else scope.addCon(say, at(parser.home, k));
                    break;
                case D_CON_END:
                    endCon(say != 0 ? types.arrow(pop(), currentResult) : currentResult, at(parser.link, k));
                    break;
                case D_EXCEPTION_END:
                    endCon(say != 0 ? types.arrow(pop(), TYPE_EXN) : TYPE_EXN, at(parser.link, k));
                    break;
                default:
                    break;
            }
            if (op == D_EXCEPTION_END) typeMode = IN_ANNOTATION;
        }

        private void endCon(int type, int mark) {
            if (!scope.giveCon(scope.conCount - 1, type)) fail(MANY, at(parser.places, mark));
        }

        /** The names of all types of one datatype, each with its variables, ahead of their constructors. */
        private void declareTypes(int dec) {
            int k = at(parser.link, dec);
            for (int n = 0; n < parser.marks && k >= 0 && fault == 0; n++) {
                int variables = at(parser.home, k);
                stamp++;
                for (int v = 1; v <= variables; v++) {
                    int name = at(parser.says, k + v);
                    if (at(variableStamp, name) == stamp) fail(AGAIN, at(parser.places, k + v));
                    put(variableStamp, name, stamp);
                }
                int name = at(parser.says, k);
                if (scope.typeOf(name) >= 0) fail(AGAIN, at(parser.places, k));
                else scope.addType(name, variables);
                k = at(parser.link, k);
            }
        }

        private int resultType(int k) {
            int variables = at(parser.home, k);
            stamp++;
            for (int v = 1; v <= variables; v++) {
                int name = at(parser.says, k + v);
                int node = types.fresh(1);
                put(variableStamp, name, stamp);
                put(variableNode, name, node);
                push(node, 0);
            }
            gather(current, variables);
            return pop();
        }
    }

    // Orders to the machine. A fail label stands in the second say above eight bits.
    private static final int O_CONSTANT = 1;
    private static final int O_LITERAL = 2;
    private static final int O_LOCAL = 3;
    private static final int O_HELD = 4;
    private static final int O_TUPLE = 5;
    private static final int O_CONS = 6;
    private static final int O_OPERATOR = 7;
    private static final int O_JUMP = 8;
    private static final int O_IF_FALSE = 9;
    private static final int O_DROP = 10;
    private static final int O_SLIDE = 11;
    private static final int O_APPLY = 12;
    private static final int O_RETURN = 13;
    private static final int O_NEED = 14;
    private static final int O_FUNCTION = 15;
    private static final int O_FILL = 16;
    private static final int O_COPY = 17;
    private static final int O_TRY = 18;
    private static final int O_TRIED = 19;
    private static final int O_RAISE = 20;
    private static final int O_THROW = 21;
    private static final int O_STEP = 22;
    private static final int O_END = 23;
    private static final int O_JOIN = 24;
    private static final int O_MATCH = 25;
    private static final int O_MATCH_HELD = 26;
    private static final int O_FIELD = 27;
    private static final int O_CON = 28;
    private static final int O_SAME = 29;
    private static final int O_KEEP = 30;
    private static final int O_BIND = 31;

    /** Marks into orders: every place on the pile is known ahead, counted from the function's word. */
    private static final class Coder {
        private static final int ORDERS = 65536;
        private static final int HOLDS = 16384;
        private static final int FRAME = 4;
        private static final int TRY_WORDS = 3;

        final int[] op = new int[ORDERS];
        final int[] one = new int[ORDERS];
        final int[] two = new int[ORDERS];
        int size;

        private final Parser parser;
        private final Scope scope;
        private final Lexer lexer;
        private final int[] memory;
        private final int[] literal = new int[NAMES_MOST];
        private final int[] holds = new int[HOLDS];
        private final int[] owner = new int[Parser.MARKS];
        private final int[] where = new int[Parser.MARKS];
        private final int[] bound = new int[VARIABLES_MOST + 1];
        private int literals;
        private int helds;
        private int function;
        private int depth;
        private int fails;
        private int level;
        private int bounds;

        Coder(Parser parser, Scope scope, Lexer lexer, int[] memory) {
            this.parser = parser;
            this.scope = scope;
            this.lexer = lexer;
            this.memory = memory;
        }

        void code() {
            size = 0;
            helds = 0;
            function = Scope.MAIN;
            depth = 0;
            literals = LITERALS;
            for (int k = 0; k < lexer.named(); k++) put(literal, k, NONE);
            for (int k = 0; k < parser.marks; k++) put(owner, k, NONE);
            for (int k = 0; k < parser.marks; k++) {
                int kind = at(parser.op, k);
                if (kind == D_VAL) {
                    hold(k);
                    k = Math.max(k, at(parser.link, k));
                } else if (kind < E_CASE) {
                    plain(kind, k);
                } else if (kind < P_MARK) {
                    rules(kind, k);
                } else if (kind < T_VARIABLE) {
                    pattern(kind, k);
                } else if (kind > T_ARROW) {
                    dec(kind, k);
                }
            }
            add(O_END, 0, 0);
            findTails();
        }

        private int add(int order, int first, int second) {
            int k = size;
            if (k >= ORDERS) return k;
            put(op, k, order);
            put(one, k, first);
            put(two, k, second);
            size++;
            return k;
        }

        private void hold(int what) {
            put(holds, helds, what);
            helds++;
        }

        private int release() {
            if (helds > 0) helds--;
            return at(holds, helds);
        }

        /** The order jumps to here. */
        private void land(int order) {
            put(one, order, size);
        }

        private void constant(int word) {
            add(O_CONSTANT, word, 0);
            depth++;
        }

        /** An application is a call in tail position when what follows does nothing that is seen but return. */
        private void findTails() {
            for (int k = 0; k < size; k++) {
                if (at(op, k) != O_APPLY) continue;
                int next = k + 1;
                for (int n = 0; n < size; n++) {
                    int order = at(op, next);
                    if (order == O_JUMP) next = at(one, next);
                    else if (order == O_SLIDE) next++;
                    else break;
                }
                if (at(op, next) == O_RETURN) put(one, k, 1);
            }
        }

        private void plain(int kind, int k) {
            int say = at(parser.says, k);
            switch (kind) {
                case E_TRY:
                    hold(add(O_TRY, 0, 0));
                    depth += TRY_WORDS;
                    break;
                case E_NUMBER:
                    constant(say * 2 + 1);
                    break;
                case E_STRING:
                    add(O_LITERAL, literalOf(say), 0);
                    depth++;
                    break;
                case E_UNIT:
                    constant(UNIT_WORD);
                    break;
                case E_NAME:
                    name(at(parser.link, k));
                    break;
                case E_KNOWN:
                    constant(say * 4 + KNOWN_FUNCTION);
                    break;
                case E_APPLY:
                    add(O_APPLY, 0, 0);
                    depth--;
                    break;
                case E_OPERATOR:
                    add(say == K_CONS ? O_CONS : say == K_JOIN ? O_JOIN : O_OPERATOR, say, 0);
                    depth--;
                    break;
                case E_TUPLE:
                    add(O_TUPLE, say, 0);
                    depth -= say - 1;
                    break;
                case E_LIST:
                    constant(NIL_WORD);
                    for (int n = 0; n < say; n++) add(O_CONS, 0, 0);
                    depth -= say;
                    break;
                case E_PASSED:
                    add(O_DROP, 0, 0);
                    depth--;
                    break;
                case E_RAISE:
                    add(O_RAISE, 0, 0);
                    break;
                default:
                    branches(kind);
                    break;
            }
        }

        private void branches(int kind) {
            switch (kind) {
                case E_AND_MID:
                case E_THEN:
                case E_DO:
                    hold(add(O_IF_FALSE, 0, 0));
                    depth--;
                    break;
                case E_AND:
                    elseHere();
                    add(O_CONSTANT, FALSE_WORD, 0);
                    land(release());
                    break;
                case E_OR_MID:
                    hold(add(O_IF_FALSE, 0, 0));
                    add(O_CONSTANT, TRUE_WORD, 0);
                    elseHere();
                    depth--;
                    break;
                case E_ELSE:
                    elseHere();
                    depth--;
                    break;
                case E_OR:
                case E_IF_END:
                    land(release());
                    break;
                case E_WHILE:
                    hold(add(O_STEP, 0, 0));
                    break;
                case E_WHILE_END:
                    add(O_DROP, 0, 0);
                    depth--;
                    int exit = release();
                    add(O_JUMP, release(), 0);
                    land(exit);
                    constant(UNIT_WORD);
                    break;
                default:
                    break;
            }
        }

        /** What was held jumps to here; ahead of here a jump over what comes is held. */
        private void elseHere() {
            int order = release();
            hold(add(O_JUMP, 0, 0));
            land(order);
        }

        private int literalOf(int name) {
            if (at(literal, name) >= 0) return at(literal, name);
            int bytes = lexer.sizeOf(name);
            int where = literals * 4;
            put(literal, name, where);
            if (literals < PILE_BASE) put(memory, literals, bytes * 8 + HEAD_STRING);
            literals++;
            for (int k = 0; k < bytes; k += 4) {
                int word = 0;
                for (int m = k; m < k + 4; m++) word = word << 8 | (m < bytes ? lexer.letterOf(name, m) : 0);
                if (literals < PILE_BASE) put(memory, literals, word);
                literals++;
            }
            return where;
        }

        private void name(int stands) {
            if (stands >= Checker.FOR_FUNCTION) {
                constant((stands - Checker.FOR_FUNCTION) * 4 + KNOWN_FUNCTION);
            } else if (stands >= Checker.FOR_CON) {
                int con = stands - Checker.FOR_CON;
                constant(con * 4 + (scope.hasArgument(con) ? CON_FUNCTION : CONSTANT));
            } else {
                int from = source(stands);
                if (from >= 0) add(O_LOCAL, from, 0);
                else add(O_HELD, ~from, 0);
                depth++;
            }
        }

        /** Where a variable is: a place of the frame, or below 0 the words that the function holds. */
        private int source(int mark) {
            if (at(owner, mark) == function) return at(where, mark);
            if (scope.ownMark(function) == mark) return stagesOf(mark) > 1 ? ~scope.holds(function) : 0;
            return ~scope.slotOf(function, mark);
        }

        private int stagesOf(int mark) {
            return at(parser.op, mark) == D_FUNCTION ? at(parser.link, mark + 1) : 1;
        }

        private void bind(int mark, int place) {
            put(owner, mark, function);
            put(where, mark, place);
        }

        /** A MATCH holds whether it is a fn's, where its value is, and the chain of jumps to its end. */
        private void rules(int kind, int k) {
            switch (kind) {
                case E_CASE:
                    beginMatch(0, depth - 1, NONE);
                    break;
                case E_HANDLE:
                    add(O_TRIED, 0, 0);
                    int jump = add(O_JUMP, NONE, 0);
                    land(release());
                    depth -= TRY_WORDS;
                    beginMatch(0, depth - 1, jump);
                    break;
                case E_FN:
                    beginFn(k);
                    break;
                case R_BEGIN:
                    beginPatterns();
                    add(O_MATCH, at(holds, helds - 2), 0);
                    break;
                case R_GIVES:
                    bindAll();
                    break;
                case R_END:
                    endRule();
                    break;
                case E_CASE_END:
                case E_FN_END:
                    add(O_THROW, CON_MATCH * 4 + CONSTANT, 0);
                    endMatch();
                    break;
                case E_HANDLE_END:
                    add(O_RAISE, 0, 0);
                    endMatch();
                    break;
                case E_LET:
                    hold(depth);
                    break;
                case E_LET_END:
                    int base = release();
                    if (depth - 1 > base) add(O_SLIDE, depth - 1 - base, 0);
                    depth = base + 1;
                    break;
                default:
                    break;
            }
        }

        private void beginMatch(int ofFn, int subject, int chain) {
            hold(ofFn);
            hold(subject);
            hold(chain);
        }

        private void endMatch() {
            int chain = release();
            release();
            if (release() != 0) {
                endBodies();
                return;
            }
            for (int n = 0; n < size && chain >= 0; n++) {
                int next = at(one, chain);
                land(chain);
                chain = next;
            }
        }

        private void beginFn(int k) {
            int inner = at(parser.link, k);
            int words = scope.holds(inner);
            if (scope.ownMark(inner) >= 0) bind(k - 1, depth);
            add(O_NEED, 2 + words, 0);
            int made = add(O_FUNCTION, 0, words);
            depth++;
            fill(inner, depth - 1);
            beginBodies();
            land(made);
            function = inner;
            depth = FRAME;
            beginMatch(1, 1, NONE);
        }

        /** Puts into the function at a place of the frame what it holds. */
        private void fill(int inner, int place) {
            int held = scope.firstHeld(inner);
            for (int slot = 0; slot < scope.holds(inner) && held >= 0; slot++) {
                add(O_FILL, source(scope.heldMark(held)), place << 8 | slot);
                held = scope.nextHeld(held);
            }
        }

        private void beginBodies() {
            hold(add(O_JUMP, 0, 0));
            hold(function);
            hold(depth);
        }

        private void endBodies() {
            depth = release();
            function = release();
            land(release());
        }

        private void beginPatterns() {
            bounds = 0;
            fails = NONE;
            level = 0;
        }

        /** All of a PAT has matched: its variables come onto the pile, till its rule is over. */
        private void bindAll() {
            if (bounds > 0) add(O_BIND, bounds, 0);
            for (int n = 0; n < bounds; n++) bind(at(bound, n), depth + n);
            depth += bounds;
            hold(bounds);
            hold(fails);
        }

        private void endRule() {
            int chain = release();
            int variables = release();
            if (at(holds, helds - 3) != 0) {
                add(O_RETURN, 0, 0);
            } else {
                add(O_SLIDE, variables + 1, 0);
                put(holds, helds - 1, add(O_JUMP, at(holds, helds - 1), 0));
            }
            depth -= variables + 1;
            landFails(chain);
        }

        private void landFails(int chain) {
            for (int n = 0; n < size && chain >= 0; n++) {
                int says = at(two, chain);
                put(two, chain, size << 8 | says & 255);
                chain = says >> 8;
            }
        }

        private void test(int order, int what) {
            fails = add(order, what, fails << 8 | level);
        }

        private void field(int from, int to, int number) {
            add(O_FIELD, from << 16 | to << 8 | number, 0);
        }

        private void keep(int k) {
            add(O_KEEP, level, bounds);
            put(bound, bounds, k);
            bounds++;
        }

        private void pattern(int kind, int k) {
            int say = at(parser.says, k);
            switch (kind) {
                case P_NAME:
                    int con = at(parser.link, k) - Checker.FOR_CON;
                    if (con >= 0) test(O_SAME, con * 4 + CONSTANT);
                    else keep(k);
                    break;
                case P_AS:
                    keep(k);
                    break;
                case P_NUMBER:
                    test(O_SAME, say * 2 + 1);
                    break;
                case P_OPEN:
                    if (say > 1) {
                        field(level, level + 1, 0);
                        level++;
                    }
                    break;
                case P_FIELD:
                    field(level - 1, level, say);
                    break;
                case P_CLOSE:
                    if (say > 1) level--;
                    break;
                case P_CON:
                    test(O_CON, (at(parser.link, k) - Checker.FOR_CON) * 8 + HEAD_CON);
                    break;
                case P_CONS:
                case P_ITEM:
                    test(O_CON, CON_CONS * 8 + HEAD_CON);
                    field(level, level + 1, 0);
                    level++;
                    break;
                case P_CONS_MID:
                    field(level - 1, level, 1);
                    break;
                case P_CONS_END:
                    level--;
                    break;
                case P_ITEM_END:
                    level--;
                    field(level, level, 1);
                    break;
                case P_LIST_END:
                    test(O_SAME, NIL_WORD);
                    break;
                default:
                    break;
            }
        }

        private void dec(int kind, int k) {
            switch (kind) {
                case D_VAL_END:
                    endVal();
                    break;
                case D_FUN:
                    beginFun(k);
                    break;
                case D_FUNCTION:
                    function = at(parser.home, k);
                    depth = FRAME;
                    land(at(parser.places, k));
                    stages();
                    break;
                case C_CLAUSE:
                    beginPatterns();
                    break;
                case C_ARGUMENT:
                    level = 0;
                    matchArgument(at(parser.says, k));
                    break;
                case C_EQUAL:
                    bindAll();
                    break;
                case C_END:
                    int chain = release();
                    add(O_RETURN, 0, 0);
                    depth -= release() + 1;
                    landFails(chain);
                    break;
                case D_FUNCTION_END:
                    add(O_THROW, CON_MATCH * 4 + CONSTANT, 0);
                    break;
                case D_FUN_END:
                    endBodies();
                    break;
                default:
                    break;
            }
        }

        private void endVal() {
            int from = release();
            beginPatterns();
            add(O_MATCH, depth - 1, 0);
            for (int k = from + 1; k < at(parser.link, from); k++) {
                int kind = at(parser.op, k);
                if (kind < T_VARIABLE) pattern(kind, k);
            }
            bindAll();
            int chain = release();
            release();
            if (chain < 0) return;
            int jump = add(O_JUMP, 0, 0);
            landFails(chain);
            add(O_THROW, CON_BIND * 4 + CONSTANT, 0);
            land(jump);
        }

        /** All functions of one fun are made at once, then filled, for they may hold one another. */
        private void beginFun(int k) {
            int need = add(O_NEED, 0, 0);
            int words = 0;
            int first = depth;
            int mark = at(parser.link, k);
            for (int n = 0; n < parser.marks && mark >= 0; n++) {
                int holding = scope.holds(at(parser.home, mark));
                words += 2 + holding;
                bind(mark, depth);
                put(parser.places, mark, add(O_FUNCTION, 0, holding));
                depth++;
                mark = at(parser.link, mark);
            }
            put(one, need, words);
            mark = at(parser.link, k);
            for (int place = first; place < depth && mark >= 0; place++) {
                fill(at(parser.home, mark), place);
                mark = at(parser.link, mark);
            }
            beginBodies();
        }

        /** All but the last of the functions in one another that take one argument each. */
        private void stages() {
            int holding = scope.holds(function);
            int self = scope.holdsItself(function) ? 1 : 0;
            int last = stagesOf(scope.ownMark(function)) - 1;
            for (int n = 0; n < last; n++) {
                int before = holding + self + n;
                add(O_NEED, before + 3, 0);
                int made = add(O_FUNCTION, 0, before + 1);
                int copies = n == 0 ? holding : before;
                if (copies > 0) add(O_COPY, copies, 0);
                if (n == 0 && self > 0) add(O_FILL, 0, FRAME << 8 | holding);
                add(O_FILL, 1, FRAME << 8 | before);
                add(O_RETURN, 0, 0);
                land(made);
            }
        }

        private void matchArgument(int number) {
            int last = stagesOf(scope.ownMark(function)) - 1;
            int self = scope.holdsItself(function) ? 1 : 0;
            if (number == last) add(O_MATCH, 1, 0);
            else add(O_MATCH_HELD, scope.holds(function) + self + number, 0);
        }
    }

    /** The machine of how 0: carries out the orders, with a pile, a heap and a collector of its own. */
    private static final class Machine {
        private static final long TURNS_MOST = 1L << 40;

        private final int[] memory;
        private final Coder coder;
        private final byte[] figures = new byte[16];
        private int next;
        private int pile;
        private int frame;
        private int free;
        private int limit;
        private int space;
        private int heap;
        private int tries;
        private int made;
        private int stepsMost;
        private int called;
        private int ending;
        private int value;
        private int steps;
        private int collections;
        private int pileMost;

        Machine(Coder coder, int[] memory) {
            this.coder = coder;
            this.memory = memory;
        }

        /** Runs the orders: how it ends; what is seen of it, and its value, go into the counts. */
        int go(int mostSteps, int heapWords, int[] counts) {
            stepsMost = mostSteps;
            heap = heapWords;
            space = HEAP_A;
            free = space;
            limit = space + heap;
            next = 0;
            pile = PILE_BASE;
            frame = PILE_BASE;
            pileMost = PILE_BASE;
            tries = 0;
            steps = 0;
            collections = 0;
            value = UNIT_WORD;
            ending = NOT_ENDED;
            called = 0;
            put(memory, CELL_OUT, 0);
            for (long n = 0; n < TURNS_MOST && ending < 0; n++) {
                int k = next;
                int order = at(coder.op, k);
                next++;
                int say = at(coder.one, k);
                if (order >= O_MATCH) match(order, say, at(coder.two, k));
                else if (order == O_APPLY) apply(say != 0);
                else if (order >= O_TRY) trouble(order, say);
                else if (order >= O_JUMP) control(order, say, at(coder.two, k));
                else simple(order, say);
                if (called != 0) known();
            }
            put(counts, 0, steps);
            put(counts, 1, collections);
            put(counts, 2, free - space);
            put(counts, 3, pileMost - PILE_BASE);
            put(counts, 4, at(memory, CELL_OUT));
            put(counts, 5, value);
            return ending;
        }

        private void push(int word) {
            if (pile >= PILE_END) {
                ending = PILE;
                return;
            }
            put(memory, pile, word);
            pile++;
            if (pile > pileMost) pileMost = pile;
        }

        /** Takes words off the pile and puts one there instead. */
        private void replace(int words, int word) {
            pile -= words - 1;
            put(memory, pile - 1, word);
        }

        private int top(int back) {
            return at(memory, pile - back);
        }

        private void simple(int order, int say) {
            switch (order) {
                case O_CONSTANT:
                    push(say);
                    break;
                case O_LITERAL:
                    literal(say >> 2);
                    break;
                case O_LOCAL:
                    push(at(memory, frame + say));
                    break;
                case O_HELD:
                    push(at(memory, (at(memory, frame) >> 2) + 2 + say));
                    break;
                case O_TUPLE:
                    int tuple = need(say + 1);
                    if (tuple < 0) return;
                    put(memory, tuple, say * 8 + HEAD_TUPLE);
                    for (int k = 0; k < say; k++) put(memory, tuple + 1 + k, top(say - k));
                    replace(say, tuple * 4);
                    break;
                case O_CONS:
                    int cell = need(5);
                    if (cell < 0) return;
                    put(memory, cell, 2 * 8 + HEAD_TUPLE);
                    put(memory, cell + 1, top(2));
                    put(memory, cell + 2, top(1));
                    put(memory, cell + 3, CON_CONS * 8 + HEAD_CON);
                    put(memory, cell + 4, cell * 4);
                    replace(2, (cell + 3) * 4);
                    break;
                case O_OPERATOR:
                    operator(say);
                    break;
                default:
                    break;
            }
        }

        private void literal(int from) {
            int words = sizeOf(at(memory, from));
            int to = need(words);
            if (to < 0) return;
            for (int k = 0; k < words; k++) put(memory, to + k, at(memory, from + k));
            push(to * 4);
        }

        private void operator(int kind) {
            int a = top(2);
            int b = top(1);
            switch (kind) {
                case K_PLUS:
                    replace(2, a + b - 1);
                    break;
                case K_MINUS:
                    replace(2, a - b + 1);
                    break;
                case K_STAR:
                    replace(2, (a - 1) * (b >> 1) + 1);
                    break;
                case W_DIV:
                case W_MOD:
                    int by = b >> 1;
                    if (by == 0) raise(CON_DIV * 4 + CONSTANT);
                    else replace(2, (kind == W_DIV ? Math.floorDiv(a >> 1, by) : Math.floorMod(a >> 1, by)) * 2 + 1);
                    break;
                case K_ASSIGN:
                    put(memory, (a >> 2) + 1, b);
                    replace(2, UNIT_WORD);
                    break;
                default:
                    replace(2, holds(kind, a, b) ? TRUE_WORD : FALSE_WORD);
                    break;
            }
        }

        private static boolean holds(int kind, int a, int b) {
            switch (kind) {
                case K_EQUAL: return a == b;
                case K_DIFFERS: return a != b;
                case K_LESS: return a < b;
                case K_MORE: return a > b;
                case K_ATMOST: return a <= b;
                default: return a >= b;
            }
        }

        private void join() {
            int left = at(memory, top(2) >> 2) >> 3;
            int right = at(memory, top(1) >> 2) >> 3;
            int to = need(1 + (left + right + 3 >> 2));
            if (to < 0) return;
            put(memory, to, (left + right) * 8 + HEAD_STRING);
            int a = top(2) >> 2;
            int b = top(1) >> 2;
            for (int k = 0; k < left; k++) setByte(to, k, byteOf(a, k));
            for (int k = 0; k < right; k++) setByte(to, left + k, byteOf(b, k));
            replace(2, to * 4);
        }

        private int byteOf(int string, int k) {
            return at(memory, string + 1 + (k >> 2)) >> 24 - 8 * (k & 3) & 255;
        }

        private void setByte(int string, int k, int b) {
            int word = string + 1 + (k >> 2);
            int shift = 24 - 8 * (k & 3);
            put(memory, word, at(memory, word) & ~(255 << shift) | (b & 255) << shift);
        }

        private void control(int order, int say, int more) {
            switch (order) {
                case O_JUMP:
                    next = say;
                    break;
                case O_IF_FALSE:
                    pile--;
                    if (at(memory, pile) == FALSE_WORD) next = say;
                    break;
                case O_DROP:
                    pile--;
                    break;
                case O_SLIDE:
                    replace(say + 1, top(1));
                    break;
                case O_RETURN:
                    int result = top(1);
                    next = at(memory, frame + 2) >> 1;
                    pile = frame + 1;
                    frame = at(memory, frame + 3) >> 1;
                    put(memory, pile - 1, result);
                    break;
                case O_NEED:
                    made = need(say);
                    break;
                case O_FUNCTION:
                    put(memory, made, (more + 1) * 8 + HEAD_FUNCTION);
                    put(memory, made + 1, say * 2 + 1);
                    push(made * 4);
                    made += 2 + more;
                    break;
                case O_FILL:
                    int from = say >= 0 ? frame + say : (at(memory, frame) >> 2) + 2 + ~say;
                    put(memory, (at(memory, frame + (more >> 8)) >> 2) + 2 + (more & 255), at(memory, from));
                    break;
                case O_COPY:
                    int own = (at(memory, frame) >> 2) + 2;
                    int other = (top(1) >> 2) + 2;
                    for (int k = 0; k < say; k++) put(memory, other + k, at(memory, own + k));
                    break;
                default:
                    break;
            }
        }

        private void trouble(int order, int say) {
            switch (order) {
                case O_TRY:
                    push(tries * 2 + 1);
                    push(say * 2 + 1);
                    push(frame * 2 + 1);
                    tries = pile - 3;
                    break;
                case O_TRIED:
                    tries = at(memory, pile - 4) >> 1;
                    replace(4, top(1));
                    break;
                case O_RAISE:
                    raise(top(1));
                    break;
                case O_THROW:
                    raise(say);
                    break;
                case O_STEP:
                    step();
                    break;
                case O_JOIN:
                    join();
                    break;
                default:
                    value = top(1);
                    ending = VALUE;
                    break;
            }
        }

        private void raise(int exception) {
            if (tries == 0) {
                value = exception;
                ending = RAISED;
                return;
            }
            pile = tries;
            tries = at(memory, pile) >> 1;
            next = at(memory, pile + 1) >> 1;
            frame = at(memory, pile + 2) >> 1;
            put(memory, pile, exception);
            pile++;
        }

        private void step() {
            if (steps >= stepsMost) ending = STEPS;
            else steps++;
        }

        private void match(int order, int say, int more) {
            int temp = TEMPS + (more & 255);
            switch (order) {
                case O_MATCH:
                    put(memory, TEMPS, at(memory, frame + say));
                    break;
                case O_MATCH_HELD:
                    put(memory, TEMPS, at(memory, (at(memory, frame) >> 2) + 2 + say));
                    break;
                case O_FIELD:
                    int tuple = at(memory, TEMPS + (say >> 16)) >> 2;
                    put(memory, TEMPS + (say >> 8 & 255), at(memory, tuple + 1 + (say & 255)));
                    break;
                case O_CON:
                    int word = at(memory, temp);
                    if ((word & 3) != 0 || at(memory, word >> 2) != say) next = more >> 8;
                    else put(memory, temp, at(memory, (word >> 2) + 1));
                    break;
                case O_SAME:
                    if (at(memory, temp) != say) next = more >> 8;
                    break;
                case O_KEEP:
                    put(memory, KEPT + more, at(memory, TEMPS + say));
                    break;
                default:
                    for (int k = 0; k < say; k++) push(at(memory, KEPT + k));
                    break;
            }
        }

        private void apply(boolean tail) {
            step();
            if (ending >= 0) return;
            int function = top(2);
            if ((function & 3) != 0) {
                called = function;
                return;
            }
            int code = at(memory, (function >> 2) + 1) >> 1;
            if (tail) {
                put(memory, frame, function);
                put(memory, frame + 1, top(1));
                pile = frame + 4;
            } else {
                push(next * 2 + 1);
                push(frame * 2 + 1);
                frame = pile - 4;
            }
            next = code;
        }

        /** What is known ahead, or a constructor, does its work in one. */
        private void known() {
            int function = called;
            int argument = top(1);
            called = 0;
            if ((function & CLASS_MASK) == (CON_FUNCTION & CLASS_MASK)) {
                box((function & ~CLASS_MASK) >> 2);
                return;
            }
            switch ((function & ~CLASS_MASK) >> 2) {
                case FUN_NEGATE:
                    replace(2, 2 - argument);
                    break;
                case FUN_FETCH:
                    replace(2, at(memory, (argument >> 2) + 1));
                    break;
                case FUN_NOT:
                    replace(2, argument == TRUE_WORD ? FALSE_WORD : TRUE_WORD);
                    break;
                case FUN_PRINT:
                    int bytes = at(memory, argument >> 2) >> 3;
                    for (int k = 0; k < bytes; k++) out(byteOf(argument >> 2, k));
                    replace(2, UNIT_WORD);
                    break;
                case FUN_PUT:
                    int digits = write(argument >> 1);
                    for (int k = digits - 1; k >= 0; k--) out(byteIn(figures, k));
                    out('\n');
                    replace(2, UNIT_WORD);
                    break;
                case FUN_SIZE:
                    replace(2, (at(memory, argument >> 2) >> 3) * 2 + 1);
                    break;
                case FUN_MANY:
                    replace(2, at(memory, CELL_INPUTS) * 2 + 1);
                    break;
                case FUN_REF:
                    box(REF_CON);
                    break;
                default:
                    partial((function & ~CLASS_MASK) >> 2, argument);
                    break;
            }
        }

        /** What is known ahead and may raise, or makes a string. */
        private void partial(int function, int argument) {
            int number = argument >> 1;
            switch (function) {
                case FUN_STR:
                    int digits = write(number);
                    int to = need(1 + (digits + 3 >> 2));
                    if (to < 0) return;
                    put(memory, to, digits * 8 + HEAD_STRING);
                    for (int k = 0; k < digits; k++) setByte(to, k, byteIn(figures, digits - 1 - k));
                    replace(2, to * 4);
                    break;
                case FUN_CHR:
                    if (number < 0 || number > 255) {
                        raise(CON_CHR * 4 + CONSTANT);
                        return;
                    }
                    int one = need(2);
                    if (one < 0) return;
                    put(memory, one, 8 + HEAD_STRING);
                    setByte(one, 0, number);
                    replace(2, one * 4);
                    break;
                case FUN_SUB:
                    int string = at(memory, (argument >> 2) + 1) >> 2;
                    int index = at(memory, (argument >> 2) + 2) >> 1;
                    if (index < 0 || index >= at(memory, string) >> 3) raise(CON_SUBSCRIPT * 4 + CONSTANT);
                    else replace(2, byteOf(string, index) * 2 + 1);
                    break;
                default:
                    if (number < 0 || number >= at(memory, CELL_INPUTS)) raise(CON_SUBSCRIPT * 4 + CONSTANT);
                    else replace(2, at(memory, INPUT + number));
                    break;
            }
        }

        private void box(int con) {
            int to = need(2);
            if (to < 0) return;
            put(memory, to, con * 8 + HEAD_CON);
            put(memory, to + 1, top(1));
            replace(2, to * 4);
        }

        private void out(int b) {
            int bytes = at(memory, CELL_OUT);
            if (bytes < KEPT_MOST) setByte(OUTPUT - 1, bytes, b);
            put(memory, CELL_OUT, bytes + 1);
        }

        /** Writes a number as figures, the last one first: how many. */
        private int write(int number) {
            int size = 0;
            int rest = number < 0 ? -number : number;
            do {
                putByte(figures, size, '0' + rest % 10);
                size++;
                rest /= 10;
            } while (rest > 0 && size < 12);
            if (number < 0) {
                putByte(figures, size, '~');
                size++;
            }
            return size;
        }

        private static int sizeOf(int head) {
            int most = head >> 3;
            return (head & 7) == HEAD_CON ? 2 : (head & 7) == HEAD_STRING ? 1 + (most + 3 >> 2) : 1 + most;
        }

        /** So many free words, after a collection if it must be; below 0 if the run has ended. */
        private int need(int words) {
            if (limit - free < words) {
                step();
                if (ending >= 0) return NONE;
                collections++;
                collect();
                if (limit - free < words) {
                    ending = HEAP;
                    return NONE;
                }
            }
            int where = free;
            free += words;
            return where;
        }

        private void collect() {
            space = space == HEAP_A ? HEAP_B : HEAP_A;
            limit = space + heap;
            free = space;
            for (int k = PILE_BASE; k < pile; k++) put(memory, k, moved(at(memory, k)));
            int scan = space;
            for (int n = 0; n < HEAP_MOST && scan < free; n++) {
                int head = at(memory, scan);
                int words = sizeOf(head);
                if ((head & 7) != HEAD_STRING) {
                    for (int k = scan + 1; k < scan + words; k++) put(memory, k, moved(at(memory, k)));
                }
                scan += words;
            }
        }

        /** The word for a word after the collection; an object's head leads to where it has gone. */
        private int moved(int word) {
            if ((word & 3) != 0) return word;
            int from = word >> 2;
            int head = at(memory, from);
            if ((head & 1) == 0) return head;
            int words = sizeOf(head);
            int to = free;
            for (int k = 0; k < words; k++) put(memory, to + k, at(memory, from + k));
            free += words;
            put(memory, from, to * 4);
            return to * 4;
        }
    }

    private static final int AT = 1;
    private static final int V0 = 2;
    private static final int V1 = 3;
    private static final int A0 = 4;
    private static final int A1 = 5;
    private static final int A2 = 6;
    private static final int T0 = 8;
    private static final int T1 = 9;
    private static final int T2 = 10;
    private static final int T3 = 11;
    private static final int T4 = 12;
    private static final int T5 = 13;
    private static final int T6 = 14;
    private static final int T7 = 15;
    private static final int T8 = 24;
    private static final int T9 = 25;
    private static final int K0 = 26;
    private static final int K1 = 27;
    private static final int RA = 31;
    // Registers that keep one meaning through a run: the pile's end, the frame, the free heap and
    // its limit, the steps left, the innermost handle, the greatest pile, and how far it may go.
    private static final int PP = 16;
    private static final int FP = 17;
    private static final int FREE = 18;
    private static final int LIMIT = 19;
    private static final int LEFT = 20;
    private static final int TRIES = 21;
    private static final int MOST = 22;
    private static final int FULL = 23;

    private static final int I_BLTZ_GEZ = 1;
    private static final int I_J = 2;
    private static final int I_JAL = 3;
    private static final int I_BEQ = 4;
    private static final int I_BNE = 5;
    private static final int I_ADDIU = 9;
    private static final int I_SLTIU = 11;
    private static final int I_ANDI = 12;
    private static final int I_ORI = 13;
    private static final int I_XORI = 14;
    private static final int I_LUI = 15;
    private static final int I_LW = 35;
    private static final int I_LBU = 36;
    private static final int I_SB = 40;
    private static final int I_SW = 43;
    private static final int F_SLL = 0;
    private static final int F_SRL = 2;
    private static final int F_SRA = 3;
    private static final int F_JR = 8;
    private static final int F_SYSCALL = 12;
    private static final int F_MFHI = 16;
    private static final int F_MFLO = 18;
    private static final int F_MULT = 24;
    private static final int F_DIV = 26;
    private static final int F_DIVU = 27;
    private static final int F_ADDU = 33;
    private static final int F_SUBU = 35;
    private static final int F_XOR = 38;
    private static final int F_SLT = 42;
    private static final int F_SLTU = 43;

    /** Lays words of MIPS I into the memory, and minds the slots behind jumps and loads. */
    private static final class Assembler {
        private static final int LABELS = Coder.ORDERS + 512;
        private static final int FIXES = 65536;
        private static final int FILLING = 2;

        private final int[] memory;
        private final int[] labels = new int[LABELS];
        private final int[] fixAt = new int[FIXES];
        private final int[] fixTo = new int[FIXES];
        private int fixes;
        private int here;
        private int blockStart;
        private int loading;
        private int how;
        private int ownLabels;

        Assembler(int[] memory) {
            this.memory = memory;
        }

        void open(int way) {
            how = way;
            here = WORDS;
            blockStart = WORDS;
            loading = 0;
            fixes = 0;
            ownLabels = Library.ROUTINES;
        }

        int label() {
            int k = ownLabels;
            if (ownLabels < LABELS - 1) ownLabels++;
            return k;
        }

        /** A label that is here. */
        int labelHere() {
            int k = label();
            land(k);
            return k;
        }

        void land(int label) {
            if (loading != 0) slot();
            put(labels, label, here);
            blockStart = here;
        }

        int addressOf(int label) {
            return at(labels, label) * 4;
        }

        private void lay(int word) {
            put(memory, here, word);
            if (here < MEMORY) here++;
        }

        private void slot() {
            put(memory, here, 0);
            if (here < MEMORY) here++;
            loading = 0;
        }

        private static boolean isLoad(int word) {
            int kind = word >>> 26;
            return kind == I_LW || kind == I_LBU;
        }

        private static boolean isStore(int word) {
            int kind = word >>> 26;
            return kind == I_SW || kind == I_SB;
        }

        /** The register that a word writes, or 0; of a jump and a store none. */
        private static int written(int word) {
            int kind = word >>> 26;
            if (kind == 0) return word >> 11 & 31;
            return kind == I_SW || kind == I_SB ? 0 : word >> 16 & 31;
        }

        private static boolean touches(int word, int register) {
            int kind = word >>> 26;
            if (kind == I_J || kind == I_JAL) return false;
            return (word >> 21 & 31) == register || (word >> 16 & 31) == register || kind == 0 && (word >> 11 & 31) == register;
        }

        private void emit(int word) {
            if (loading != 0 && touches(word, loading)) {
                if (how == FILLING && canFillLoad()) {
                    int load = at(memory, here - 1);
                    put(memory, here - 1, at(memory, here - 2));
                    put(memory, here - 2, load);
                    loading = 0;
                } else {
                    slot();
                }
            }
            lay(word);
            loading = isLoad(word) ? word >> 16 & 31 : 0;
            if (how != FILLING && loading != 0) slot();
        }

        /** Whether the word ahead of the load that was laid last can as well stand behind it. */
        private boolean canFillLoad() {
            if (here - 2 < blockStart) return false;
            int load = at(memory, here - 1);
            int word = at(memory, here - 2);
            if (word == 0 || isLoad(word) || isStore(word) || touches(word, load >> 16 & 31)) return false;
            if (written(word) == (load >> 21 & 31)) return false;
            int ahead = here - 3 >= blockStart ? at(memory, here - 3) : 0;
            return !isLoad(ahead) || !touches(load, ahead >> 16 & 31);
        }

        /** A jump or branch with its slot. */
        private void leap(int word, int label) {
            if (loading != 0 && touches(word, loading)) slot();
            boolean fills = how == FILLING && canFillLeap(word);
            int filler = fills ? at(memory, here - 1) : 0;
            if (fills) here--;
            if (label >= 0) {
                put(fixAt, fixes, here);
                put(fixTo, fixes, label);
                fixes++;
            }
            lay(word);
            lay(filler);
            loading = 0;
            blockStart = here;
        }

        /** Whether the word laid last can as well stand in the slot behind the jump. */
        private boolean canFillLeap(int word) {
            if (here - 1 < blockStart) return false;
            int last = at(memory, here - 1);
            if (last == 0 || isLoad(last)) return false;
            int own = written(last);
            if (own != 0 && touches(word, own)) return false;
            if (word >>> 26 == I_JAL && touches(last, RA)) return false;
            int ahead = here - 2 >= blockStart ? at(memory, here - 2) : 0;
            return !isLoad(ahead) || !touches(word, ahead >> 16 & 31);
        }

        void three(int function, int to, int a, int b) {
            emit(a << 21 | b << 16 | to << 11 | function);
        }

        void shift(int function, int to, int from, int by) {
            emit(from << 16 | to << 11 | by << 6 | function);
        }

        void immediate(int kind, int to, int from, int number) {
            emit(kind << 26 | from << 21 | to << 16 | number & 65535);
        }

        void lw(int to, int offset, int base) {
            emit(I_LW << 26 | base << 21 | to << 16 | offset & 65535);
        }

        void sw(int from, int offset, int base) {
            emit(I_SW << 26 | base << 21 | from << 16 | offset & 65535);
        }

        void add(int to, int from, int number) {
            emit(I_ADDIU << 26 | from << 21 | to << 16 | number & 65535);
        }

        void move(int to, int from) {
            emit(from << 21 | to << 11 | F_ADDU);
        }

        /** A number into a register. */
        void set(int to, int number) {
            if (number >= -32768 && number <= 32767) {
                emit(I_ADDIU << 26 | to << 16 | number & 65535);
                return;
            }
            emit(I_LUI << 26 | to << 16 | number >>> 16);
            if ((number & 65535) != 0) emit(I_ORI << 26 | to << 21 | to << 16 | number & 65535);
        }

        /** The address of the words of an order, made odd, into a register. */
        void setCode(int to, int label) {
            if (loading != 0) slot();
            for (int n = 0; n < 2; n++) {
                put(fixAt, fixes, here);
                put(fixTo, fixes, label);
                fixes++;
                emit(n == 0 ? I_LUI << 26 | to << 16 : I_ORI << 26 | to << 21 | to << 16);
            }
            blockStart = here;
        }

        void branch(int kind, int a, int b, int label) {
            leap(kind << 26 | a << 21 | b << 16, label);
        }

        void branchNotBelow(int a, int label) {
            leap(I_BLTZ_GEZ << 26 | a << 21 | 1 << 16, label);
        }

        /** Goes over the next jump, if the two are equal (or not). */
        void over(int kind, int a, int b) {
            leap(kind << 26 | a << 21 | b << 16 | 3, NONE);
        }

        void jump(int label) {
            leap(I_J << 26, label);
        }

        void jumpAndLink(int label) {
            leap(I_JAL << 26, label);
        }

        void back(int register) {
            leap(register << 21 | F_JR, NONE);
        }

        void stop() {
            if (loading != 0) slot();
            lay(F_SYSCALL);
            blockStart = here;
        }

        /** Puts the places of labels into the words that lead to them. */
        void close() {
            for (int k = 0; k < fixes && k < FIXES; k++) {
                int where = at(fixAt, k);
                int to = at(labels, at(fixTo, k));
                int word = at(memory, where);
                int kind = word >>> 26;
                int says = kind == I_J || kind == I_JAL ? to : kind == I_LUI ? to * 4 >> 16
                    : kind == I_ORI ? to * 4 + 1 & 65535 : to - where - 1 & 65535;
                put(memory, where, word | says);
            }
        }
    }

    /** The words that all programs share: the pile, the heap with its collector, calls, what is known ahead. */
    private static final class Library {
        private static final int SAVED = CELL_SAVED * 4;
        private static final int SAVED_RETURN = CELL_SAVED * 4 + 4;
        private static final int SAVED_SIZE = CELL_SAVED * 4 + 8;
        private static final int FIGURES_END = DIGITS * 4 + 16;

        static final int R_PUSH = Coder.ORDERS + 0;
        static final int R_NEED = Coder.ORDERS + 1;
        static final int R_MOVED = Coder.ORDERS + 2;
        static final int R_COLLECT = Coder.ORDERS + 3;
        static final int R_LITERAL = Coder.ORDERS + 4;
        static final int R_TUPLE = Coder.ORDERS + 5;
        static final int R_CONS = Coder.ORDERS + 6;
        static final int R_COPY = Coder.ORDERS + 7;
        static final int R_BIND = Coder.ORDERS + 8;
        static final int R_NEW_STRING = Coder.ORDERS + 9;
        static final int R_COPY_STRING = Coder.ORDERS + 10;
        static final int R_JOIN = Coder.ORDERS + 11;
        static final int R_FIGURES = Coder.ORDERS + 12;
        static final int R_DIVIDE = Coder.ORDERS + 13;
        static final int R_RAISE = Coder.ORDERS + 14;
        static final int R_OPEN = Coder.ORDERS + 15;
        static final int R_OPENED = Coder.ORDERS + 16;
        static final int R_APPLY = Coder.ORDERS + 17;
        static final int R_APPLY_LAST = Coder.ORDERS + 18;
        static final int R_GIVE_BACK = Coder.ORDERS + 19;
        static final int R_KNOWN = Coder.ORDERS + 20;
        static final int R_RESULT = Coder.ORDERS + 21;
        static final int R_BOX = Coder.ORDERS + 22;
        static final int R_OUT = Coder.ORDERS + 23;
        static final int R_NO_STEPS = Coder.ORDERS + 24;
        static final int R_FINISH = Coder.ORDERS + 25;
        static final int R_FUNCTIONS = Coder.ORDERS + 26;
        static final int ROUTINES = R_FUNCTIONS + FUN_REF + 1;

        private final Assembler a;

        Library(Assembler assembler) {
            a = assembler;
        }

        void start() {
            int program = 0;
            a.set(PP, PILE_BASE * 4);
            a.set(FREE, HEAP_A * 4);
            a.lw(T0, CELL_SIZE * 4, 0);
            a.set(T1, HEAP_B * 4);
            a.move(FP, PP);
            a.move(MOST, PP);
            a.three(F_ADDU, LIMIT, FREE, T0);
            a.lw(LEFT, CELL_STEPS * 4, 0);
            a.sw(FREE, CELL_SPACE * 4, 0);
            a.sw(T1, CELL_OTHER * 4, 0);
            a.sw(0, CELL_COLLECTIONS * 4, 0);
            a.sw(0, CELL_OUT * 4, 0);
            a.set(FULL, PILE_END * 4);
            a.set(TRIES, 0);
            a.jump(program);
        }

        void ends() {
            a.land(R_NO_STEPS);
            a.set(V0, STEPS);
            a.land(R_FINISH);
            a.stop();
        }

        void layPush() {
            int room = a.label();
            int done = a.label();
            a.land(R_PUSH);
            a.branch(I_BNE, PP, FULL, room);
            a.set(V0, PILE);
            a.jump(R_FINISH);
            a.land(room);
            a.sw(A0, 0, PP);
            a.add(PP, PP, 4);
            a.three(F_SLTU, AT, MOST, PP);
            a.branch(I_BEQ, AT, 0, done);
            a.move(MOST, PP);
            a.land(done);
            a.back(RA);
        }

        /** So many free bytes (A0): their address in V0. Keeps A0, A1 and T9. */
        void layNeed() {
            int room = a.label();
            int enough = a.label();
            int steps = a.label();
            a.land(R_NEED);
            a.three(F_SUBU, T0, LIMIT, FREE);
            a.three(F_SLTU, T0, T0, A0);
            a.branch(I_BEQ, T0, 0, room);
            a.branch(I_BNE, LEFT, 0, steps);
            a.jump(R_NO_STEPS);
            a.land(steps);
            a.lw(T1, CELL_COLLECTIONS * 4, 0);
            a.add(LEFT, LEFT, -1);
            a.add(T1, T1, 1);
            a.sw(T1, CELL_COLLECTIONS * 4, 0);
            a.move(K1, RA);
            a.jumpAndLink(R_COLLECT);
            a.move(RA, K1);
            a.three(F_SUBU, T0, LIMIT, FREE);
            a.three(F_SLTU, T0, T0, A0);
            a.branch(I_BEQ, T0, 0, enough);
            a.set(V0, HEAP);
            a.jump(R_FINISH);
            a.land(room);
            a.land(enough);
            a.move(V0, FREE);
            a.three(F_ADDU, FREE, FREE, A0);
            a.back(RA);
        }

        /** The bytes of the object whose head is in T6, into T5. */
        private void size() {
            int words = a.label();
            int sized = a.label();
            a.immediate(I_ANDI, T0, T6, 7);
            a.set(T1, HEAD_CON);
            a.set(T5, 8);
            a.branch(I_BEQ, T0, T1, sized);
            a.set(T1, HEAD_STRING);
            a.shift(F_SRL, T5, T6, 3);
            a.branch(I_BNE, T0, T1, words);
            a.add(T5, T5, 3);
            a.shift(F_SRL, T5, T5, 2);
            a.land(words);
            a.add(T5, T5, 1);
            a.shift(F_SLL, T5, T5, 2);
            a.land(sized);
        }

        /** The word for the word in A2 after the collection, into V1. */
        void layMoved() {
            int gone = a.label();
            int copies = a.label();
            a.land(R_MOVED);
            a.immediate(I_ANDI, T0, A2, 3);
            a.move(V1, A2);
            a.branch(I_BNE, T0, 0, gone);
            a.lw(T6, 0, A2);
            a.immediate(I_ANDI, T0, T6, 1);
            a.branch(I_BNE, T0, 0, copies);
            a.move(V1, T6);
            a.jump(gone);
            a.land(copies);
            size();
            a.move(V1, FREE);
            a.three(F_ADDU, T4, FREE, T5);
            a.move(T3, A2);
            int next = a.labelHere();
            a.lw(T0, 0, T3);
            a.add(T3, T3, 4);
            a.sw(T0, 0, FREE);
            a.add(FREE, FREE, 4);
            a.branch(I_BNE, FREE, T4, next);
            a.sw(V1, 0, A2);
            a.land(gone);
            a.back(RA);
        }

        void layCollect() {
            int scan = a.label();
            int fields = a.label();
            int done = a.label();
            a.land(R_COLLECT);
            a.move(K0, RA);
            a.lw(T0, CELL_SPACE * 4, 0);
            a.lw(T1, CELL_OTHER * 4, 0);
            a.lw(T2, CELL_SIZE * 4, 0);
            a.sw(T1, CELL_SPACE * 4, 0);
            a.sw(T0, CELL_OTHER * 4, 0);
            a.move(FREE, T1);
            a.three(F_ADDU, LIMIT, T1, T2);
            a.move(T8, T1);
            a.set(T7, PILE_BASE * 4);
            int words = a.labelHere();
            a.branch(I_BEQ, T7, PP, scan);
            a.lw(A2, 0, T7);
            a.jumpAndLink(R_MOVED);
            a.sw(V1, 0, T7);
            a.add(T7, T7, 4);
            a.jump(words);
            a.land(scan);
            a.branch(I_BEQ, T8, FREE, done);
            a.lw(T6, 0, T8);
            size();
            a.three(F_ADDU, T7, T8, T5);
            a.add(T8, T8, 4);
            a.immediate(I_ANDI, T0, T6, 7);
            a.set(T1, HEAD_STRING);
            a.branch(I_BNE, T0, T1, fields);
            a.move(T8, T7);
            a.jump(scan);
            a.land(fields);
            a.branch(I_BEQ, T8, T7, scan);
            a.lw(A2, 0, T8);
            a.jumpAndLink(R_MOVED);
            a.sw(V1, 0, T8);
            a.add(T8, T8, 4);
            a.jump(fields);
            a.land(done);
            a.back(K0);
        }

        /** Words from T2 on into those from T3 on, up to T4. */
        private void copyWords() {
            int next = a.labelHere();
            a.lw(T5, 0, T2);
            a.add(T2, T2, 4);
            a.sw(T5, 0, T3);
            a.add(T3, T3, 4);
            a.branch(I_BNE, T3, T4, next);
        }

        void layObjects() {
            a.land(R_LITERAL);
            a.lw(T6, 0, A1);
            a.move(T9, RA);
            size();
            a.move(A0, T5);
            a.jumpAndLink(R_NEED);
            a.move(T2, A1);
            a.move(T3, V0);
            a.three(F_ADDU, T4, V0, A0);
            copyWords();
            a.move(A0, V0);
            a.move(RA, T9);
            a.jump(R_PUSH);
            a.land(R_TUPLE);
            a.move(T9, RA);
            a.shift(F_SLL, A0, A1, 2);
            a.add(A0, A0, 4);
            a.jumpAndLink(R_NEED);
            a.shift(F_SLL, T0, A1, 3);
            a.add(T0, T0, HEAD_TUPLE);
            a.sw(T0, 0, V0);
            a.shift(F_SLL, T1, A1, 2);
            a.three(F_SUBU, PP, PP, T1);
            a.move(T2, PP);
            a.add(T3, V0, 4);
            a.three(F_ADDU, T4, T3, T1);
            copyWords();
            a.sw(V0, 0, PP);
            a.add(PP, PP, 4);
            a.back(T9);
            a.land(R_COPY);
            a.lw(T2, 0, FP);
            a.lw(T3, -4, PP);
            a.add(T2, T2, 8);
            a.add(T3, T3, 8);
            a.three(F_ADDU, T4, T3, A1);
            copyWords();
            a.back(RA);
            a.land(R_BIND);
            a.move(T9, RA);
            a.set(T2, 0);
            int next = a.labelHere();
            a.lw(A0, KEPT * 4, T2);
            a.jumpAndLink(R_PUSH);
            a.add(T2, T2, 4);
            a.branch(I_BNE, T2, A1, next);
            a.back(T9);
        }

        void layCons() {
            a.land(R_CONS);
            a.move(T9, RA);
            a.set(A0, 20);
            a.jumpAndLink(R_NEED);
            a.set(T0, 2 * 8 + HEAD_TUPLE);
            a.lw(T1, -8, PP);
            a.lw(T2, -4, PP);
            a.sw(T0, 0, V0);
            a.sw(T1, 4, V0);
            a.sw(T2, 8, V0);
            a.set(T3, CON_CONS * 8 + HEAD_CON);
            a.sw(T3, 12, V0);
            a.sw(V0, 16, V0);
            a.add(T4, V0, 12);
            a.sw(T4, -8, PP);
            a.add(PP, PP, -4);
            a.back(T9);
        }

        void layStrings() {
            a.land(R_NEW_STRING);
            a.sw(RA, SAVED_RETURN, 0);
            a.sw(T3, SAVED_SIZE, 0);
            a.add(A0, T3, 3);
            a.shift(F_SRL, A0, A0, 2);
            a.shift(F_SLL, A0, A0, 2);
            a.add(A0, A0, 4);
            a.jumpAndLink(R_NEED);
            a.lw(T3, SAVED_SIZE, 0);
            a.lw(RA, SAVED_RETURN, 0);
            a.shift(F_SLL, T0, T3, 3);
            a.add(T0, T0, HEAD_STRING);
            a.sw(T0, 0, V0);
            a.back(RA);
            int copied = a.label();
            a.land(R_COPY_STRING);
            a.lw(T1, 0, T0);
            a.add(T0, T0, 4);
            a.shift(F_SRL, T1, T1, 3);
            a.three(F_ADDU, T1, T0, T1);
            int next = a.labelHere();
            a.branch(I_BEQ, T0, T1, copied);
            a.immediate(I_LBU, T2, T0, 0);
            a.add(T0, T0, 1);
            a.immediate(I_SB, T2, T4, 0);
            a.add(T4, T4, 1);
            a.jump(next);
            a.land(copied);
            a.back(RA);
            a.land(R_JOIN);
            a.move(T9, RA);
            a.lw(T0, -8, PP);
            a.lw(T1, -4, PP);
            a.lw(T0, 0, T0);
            a.lw(T1, 0, T1);
            a.shift(F_SRL, T0, T0, 3);
            a.shift(F_SRL, T1, T1, 3);
            a.three(F_ADDU, T3, T0, T1);
            a.jumpAndLink(R_NEW_STRING);
            a.lw(T0, -8, PP);
            a.add(T4, V0, 4);
            a.jumpAndLink(R_COPY_STRING);
            a.lw(T0, -4, PP);
            a.jumpAndLink(R_COPY_STRING);
            a.add(PP, PP, -4);
            a.sw(V0, -4, PP);
            a.back(T9);
        }

        /** The figures of the number in A1: they begin at T1 and end ahead of T2. */
        void layFigures() {
            int above = a.label();
            int done = a.label();
            a.land(R_FIGURES);
            a.shift(F_SRA, T0, A1, 1);
            a.move(T3, T0);
            a.branchNotBelow(T0, above);
            a.three(F_SUBU, T3, 0, T0);
            a.land(above);
            a.set(T2, FIGURES_END);
            a.move(T1, T2);
            a.set(T4, 10);
            int next = a.labelHere();
            a.three(F_DIVU, 0, T3, T4);
            a.three(F_MFHI, T5, 0, 0);
            a.three(F_MFLO, T3, 0, 0);
            a.add(T5, T5, '0');
            a.add(T1, T1, -1);
            a.immediate(I_SB, T5, T1, 0);
            a.branch(I_BNE, T3, 0, next);
            a.branchNotBelow(T0, done);
            a.set(T5, '~');
            a.add(T1, T1, -1);
            a.immediate(I_SB, T5, T1, 0);
            a.land(done);
            a.back(RA);
        }

        /** div (A1 0) and mod (A1 1), rounded down. */
        void layDivide() {
            int byZero = a.label();
            int exact = a.label();
            int quotient = a.label();
            a.land(R_DIVIDE);
            a.lw(T0, -8, PP);
            a.lw(T1, -4, PP);
            a.shift(F_SRA, T0, T0, 1);
            a.shift(F_SRA, T1, T1, 1);
            a.branch(I_BEQ, T1, 0, byZero);
            a.three(F_DIV, 0, T0, T1);
            a.three(F_MFLO, T2, 0, 0);
            a.three(F_MFHI, T3, 0, 0);
            a.branch(I_BEQ, T3, 0, exact);
            a.three(F_XOR, T4, T3, T1);
            a.branchNotBelow(T4, exact);
            a.add(T2, T2, -1);
            a.three(F_ADDU, T3, T3, T1);
            a.land(exact);
            a.branch(I_BEQ, A1, 0, quotient);
            a.move(T2, T3);
            a.land(quotient);
            a.shift(F_SLL, T2, T2, 1);
            a.add(T2, T2, 1);
            a.add(PP, PP, -4);
            a.sw(T2, -4, PP);
            a.back(RA);
            a.land(byZero);
            a.set(A0, CON_DIV * 4 + CONSTANT);
            a.jump(R_RAISE);
        }

        void layRaise() {
            int handled = a.label();
            a.land(R_RAISE);
            a.branch(I_BNE, TRIES, 0, handled);
            a.move(V1, A0);
            a.set(V0, RAISED);
            a.jump(R_FINISH);
            a.land(handled);
            a.move(PP, TRIES);
            a.lw(T0, 0, PP);
            a.lw(T1, 4, PP);
            a.lw(T2, 8, PP);
            a.sw(A0, 0, PP);
            a.add(PP, PP, 4);
            a.add(TRIES, T0, -1);
            a.add(T1, T1, -1);
            a.add(FP, T2, -1);
            a.back(T1);
            a.land(R_OPEN);
            a.move(T9, RA);
            a.add(A0, TRIES, 1);
            a.jumpAndLink(R_PUSH);
            a.move(A0, A1);
            a.jumpAndLink(R_PUSH);
            a.add(A0, FP, 1);
            a.jumpAndLink(R_PUSH);
            a.add(TRIES, PP, -12);
            a.back(T9);
            a.land(R_OPENED);
            a.lw(T0, -16, PP);
            a.lw(T1, -4, PP);
            a.add(TRIES, T0, -1);
            a.add(PP, PP, -12);
            a.sw(T1, -4, PP);
            a.back(RA);
        }

        void layCalls() {
            int object = a.label();
            int objectLast = a.label();
            a.land(R_APPLY);
            step();
            a.lw(T0, -8, PP);
            a.immediate(I_ANDI, T1, T0, 3);
            a.branch(I_BEQ, T1, 0, object);
            a.jump(R_KNOWN);
            a.land(object);
            a.add(A0, RA, 1);
            a.jumpAndLink(R_PUSH);
            a.add(A0, FP, 1);
            a.jumpAndLink(R_PUSH);
            a.lw(T0, -16, PP);
            a.add(FP, PP, -16);
            enterObject();
            a.land(R_APPLY_LAST);
            step();
            a.lw(T0, -8, PP);
            a.immediate(I_ANDI, T1, T0, 3);
            a.branch(I_BEQ, T1, 0, objectLast);
            a.jump(R_KNOWN);
            a.land(objectLast);
            a.lw(T2, -4, PP);
            a.sw(T0, 0, FP);
            a.sw(T2, 4, FP);
            a.add(PP, FP, 16);
            enterObject();
            a.land(R_GIVE_BACK);
            a.lw(T0, -4, PP);
            a.lw(T1, 8, FP);
            a.lw(T2, 12, FP);
            a.add(PP, FP, 4);
            a.sw(T0, 0, FP);
            a.add(T1, T1, -1);
            a.add(FP, T2, -1);
            a.back(T1);
        }

        void step() {
            a.over(I_BNE, LEFT, 0);
            a.jump(R_NO_STEPS);
            a.add(LEFT, LEFT, -1);
        }

        private void enterObject() {
            a.lw(T1, 4, T0);
            a.add(T1, T1, -1);
            a.back(T1);
        }

        /** What is known ahead: the argument in A1, where to go on in T9, the value into A0. */
        void layKnown() {
            int table = a.labelHere();
            for (int k = 0; k <= FUN_REF; k++) a.jump(R_FUNCTIONS + k);
            a.land(R_RESULT);
            a.sw(A0, -8, PP);
            a.add(PP, PP, -4);
            a.back(T9);
            a.land(R_KNOWN);
            int function = a.label();
            a.move(T9, RA);
            a.lw(A1, -4, PP);
            a.shift(F_SRL, T1, T0, 12);
            a.set(T2, CON_FUNCTION >> 12);
            a.immediate(I_ANDI, T3, T0, 4095);
            a.shift(F_SRL, T3, T3, 2);
            a.branch(I_BNE, T1, T2, function);
            a.jump(R_BOX);
            a.land(function);
            a.set(T2, a.addressOf(table));
            a.shift(F_SLL, T3, T3, 3);
            a.three(F_ADDU, T2, T2, T3);
            a.back(T2);
            a.land(R_FUNCTIONS + FUN_REF);
            a.set(T3, REF_CON);
            a.jump(R_BOX);
        }

        void layBox() {
            a.land(R_BOX);
            a.sw(T3, SAVED, 0);
            a.set(A0, 8);
            a.jumpAndLink(R_NEED);
            a.lw(T3, SAVED, 0);
            a.lw(T0, -4, PP);
            a.shift(F_SLL, T3, T3, 3);
            a.add(T3, T3, HEAD_CON);
            a.sw(T3, 0, V0);
            a.sw(T0, 4, V0);
            a.move(A0, V0);
            a.jump(R_RESULT);
        }

        void layPlain() {
            a.land(R_FUNCTIONS + FUN_NEGATE);
            a.set(T0, 2);
            a.three(F_SUBU, A0, T0, A1);
            a.jump(R_RESULT);
            a.land(R_FUNCTIONS + FUN_FETCH);
            a.lw(A0, 4, A1);
            a.jump(R_RESULT);
            a.land(R_FUNCTIONS + FUN_NOT);
            a.set(T0, TRUE_WORD + FALSE_WORD);
            a.three(F_SUBU, A0, T0, A1);
            a.jump(R_RESULT);
            a.land(R_FUNCTIONS + FUN_SIZE);
            a.lw(T0, 0, A1);
            a.shift(F_SRL, T0, T0, 3);
            a.shift(F_SLL, T0, T0, 1);
            a.add(A0, T0, 1);
            a.jump(R_RESULT);
            a.land(R_FUNCTIONS + FUN_MANY);
            a.lw(T0, CELL_INPUTS * 4, 0);
            a.shift(F_SLL, T0, T0, 1);
            a.add(A0, T0, 1);
            a.jump(R_RESULT);
        }

        void layOutput() {
            a.land(R_OUT);
            int kept = a.label();
            a.lw(T5, CELL_OUT * 4, 0);
            a.immediate(I_SLTIU, T6, T5, KEPT_MOST);
            a.branch(I_BEQ, T6, 0, kept);
            a.immediate(I_SB, A0, T5, OUTPUT * 4);
            a.land(kept);
            a.add(T5, T5, 1);
            a.sw(T5, CELL_OUT * 4, 0);
            a.back(RA);
            int put = a.label();
            a.land(R_FUNCTIONS + FUN_PRINT);
            a.lw(T0, 0, A1);
            a.add(T1, A1, 4);
            a.shift(F_SRL, T0, T0, 3);
            a.three(F_ADDU, T2, T1, T0);
            int next = a.labelHere();
            a.branch(I_BEQ, T1, T2, put);
            a.immediate(I_LBU, A0, T1, 0);
            a.jumpAndLink(R_OUT);
            a.add(T1, T1, 1);
            a.jump(next);
            a.land(R_FUNCTIONS + FUN_PUT);
            a.jumpAndLink(R_FIGURES);
            a.set(T5, '\n');
            a.immediate(I_SB, T5, T2, 0);
            a.add(T2, T2, 1);
            a.jump(next);
            a.land(put);
            a.set(A0, UNIT_WORD);
            a.jump(R_RESULT);
        }

        void layPartial() {
            int subscript = a.label();
            int noByte = a.label();
            a.land(R_FUNCTIONS + FUN_STR);
            a.jumpAndLink(R_FIGURES);
            a.three(F_SUBU, T3, T2, T1);
            a.jumpAndLink(R_NEW_STRING);
            a.set(T2, FIGURES_END);
            a.three(F_SUBU, T1, T2, T3);
            a.add(T4, V0, 4);
            int next = a.labelHere();
            a.immediate(I_LBU, T5, T1, 0);
            a.add(T1, T1, 1);
            a.immediate(I_SB, T5, T4, 0);
            a.add(T4, T4, 1);
            a.branch(I_BNE, T1, T2, next);
            a.move(A0, V0);
            a.jump(R_RESULT);
            a.land(R_FUNCTIONS + FUN_CHR);
            a.shift(F_SRA, T0, A1, 1);
            a.immediate(I_SLTIU, T1, T0, 256);
            a.branch(I_BEQ, T1, 0, noByte);
            a.set(T3, 1);
            a.jumpAndLink(R_NEW_STRING);
            a.lw(T0, -4, PP);
            a.move(A0, V0);
            a.shift(F_SRA, T0, T0, 1);
            a.immediate(I_SB, T0, V0, 4);
            a.jump(R_RESULT);
            a.land(R_FUNCTIONS + FUN_SUB);
            a.lw(T0, 4, A1);
            a.lw(T1, 8, A1);
            a.lw(T2, 0, T0);
            a.shift(F_SRA, T1, T1, 1);
            a.shift(F_SRL, T2, T2, 3);
            a.three(F_SLTU, T3, T1, T2);
            a.branch(I_BEQ, T3, 0, subscript);
            a.three(F_ADDU, T0, T0, T1);
            a.immediate(I_LBU, T0, T0, 4);
            a.shift(F_SLL, T0, T0, 1);
            a.add(A0, T0, 1);
            a.jump(R_RESULT);
            a.land(subscript);
            a.set(A0, CON_SUBSCRIPT * 4 + CONSTANT);
            a.jump(R_RAISE);
            a.land(noByte);
            a.set(A0, CON_CHR * 4 + CONSTANT);
            a.jump(R_RAISE);
        }

        void layGiven() {
            int subscript = a.label();
            a.land(R_FUNCTIONS + FUN_GIVEN);
            a.lw(T2, CELL_INPUTS * 4, 0);
            a.shift(F_SRA, T1, A1, 1);
            a.three(F_SLTU, T3, T1, T2);
            a.branch(I_BEQ, T3, 0, subscript);
            a.shift(F_SLL, T1, T1, 2);
            a.lw(A0, INPUT * 4, T1);
            a.jump(R_RESULT);
            a.land(subscript);
            a.set(A0, CON_SUBSCRIPT * 4 + CONSTANT);
            a.jump(R_RAISE);
        }
    }

    /** Orders into words of MIPS I, each order into its few. */
    private static final class Compiler {
        private final Coder coder;
        private final Assembler a;
        private final Library library;
        private final int[] landing = new int[Coder.ORDERS];

        Compiler(Coder coder, int[] memory) {
            this.coder = coder;
            a = new Assembler(memory);
            library = new Library(a);
        }

        void compile(int how) {
            a.open(how);
            library.start();
            library.ends();
            library.layPush();
            library.layMoved();
            library.layCollect();
            library.layNeed();
            library.layObjects();
            library.layCons();
            library.layStrings();
            library.layFigures();
            library.layDivide();
            library.layRaise();
            library.layCalls();
            library.layKnown();
            library.layBox();
            library.layPlain();
            library.layOutput();
            library.layPartial();
            library.layGiven();
            findLandings();
            for (int k = 0; k < coder.size; k++) {
                if (at(landing, k) != 0) a.land(k);
                int order = at(coder.op, k);
                int say = at(coder.one, k);
                int more = at(coder.two, k);
                if (order >= O_MATCH) match(order, say, more);
                else if (order >= O_TRY) trouble(order, say);
                else if (order == O_FILL) fill(say, more, k);
                else if (order >= O_JUMP) control(order, say, more);
                else if (order == O_OPERATOR) operator(say);
                else simple(order, say);
            }
            a.close();
        }

        /** Only where a jump leads may nothing be moved from ahead to behind. */
        private void findLandings() {
            for (int k = 0; k < coder.size; k++) put(landing, k, k == 0 ? 1 : 0);
            for (int k = 0; k < coder.size; k++) {
                int order = at(coder.op, k);
                if (order == O_JUMP || order == O_IF_FALSE || order == O_FUNCTION || order == O_TRY) put(landing, at(coder.one, k), 1);
                else if (order == O_CON || order == O_SAME) put(landing, at(coder.two, k) >> 8, 1);
            }
        }

        private void with(int number, int routine) {
            a.set(A1, number);
            a.jumpAndLink(routine);
        }

        private void simple(int order, int say) {
            switch (order) {
                case O_CONSTANT:
                    a.set(A0, say);
                    a.jumpAndLink(Library.R_PUSH);
                    break;
                case O_LITERAL:
                    with(say, Library.R_LITERAL);
                    break;
                case O_LOCAL:
                    a.lw(A0, say * 4, FP);
                    a.jumpAndLink(Library.R_PUSH);
                    break;
                case O_HELD:
                    a.lw(T0, 0, FP);
                    a.lw(A0, 8 + say * 4, T0);
                    a.jumpAndLink(Library.R_PUSH);
                    break;
                case O_TUPLE:
                    with(say, Library.R_TUPLE);
                    break;
                default:
                    a.jumpAndLink(Library.R_CONS);
                    break;
            }
        }

        private void operator(int kind) {
            if (kind == W_DIV || kind == W_MOD) {
                with(kind == W_DIV ? 0 : 1, Library.R_DIVIDE);
                return;
            }
            a.lw(T0, -8, PP);
            a.lw(T1, -4, PP);
            a.add(PP, PP, -4);
            switch (kind) {
                case K_PLUS:
                    a.three(F_ADDU, T2, T0, T1);
                    a.add(T2, T2, -1);
                    break;
                case K_MINUS:
                    a.three(F_SUBU, T2, T0, T1);
                    a.add(T2, T2, 1);
                    break;
                case K_STAR:
                    a.add(T0, T0, -1);
                    a.shift(F_SRA, T1, T1, 1);
                    a.three(F_MULT, 0, T0, T1);
                    a.three(F_MFLO, T2, 0, 0);
                    a.add(T2, T2, 1);
                    break;
                case K_ASSIGN:
                    a.sw(T1, 4, T0);
                    a.set(T2, UNIT_WORD);
                    break;
                default:
                    comparison(kind);
                    break;
            }
            a.sw(T2, -4, PP);
        }

        private void comparison(int kind) {
            boolean turned = kind == K_MORE || kind == K_ATMOST;
            if (kind == K_EQUAL || kind == K_DIFFERS) {
                a.three(F_XOR, T2, T0, T1);
                a.immediate(I_SLTIU, T2, T2, 1);
            } else {
                a.three(F_SLT, T2, turned ? T1 : T0, turned ? T0 : T1);
            }
            if (kind == K_DIFFERS || kind == K_ATMOST || kind == K_ATLEAST) a.immediate(I_XORI, T2, T2, 1);
            a.set(T3, FALSE_WORD);
            a.shift(F_SLL, T2, T2, 2);
            a.three(F_SUBU, T2, T3, T2);
        }

        private void control(int order, int say, int more) {
            switch (order) {
                case O_JUMP:
                    a.jump(say);
                    break;
                case O_IF_FALSE:
                    a.lw(T0, -4, PP);
                    a.add(PP, PP, -4);
                    a.set(T1, FALSE_WORD);
                    a.over(I_BNE, T0, T1);
                    a.jump(say);
                    break;
                case O_DROP:
                    a.add(PP, PP, -4);
                    break;
                case O_SLIDE:
                    a.lw(T0, -4, PP);
                    a.add(PP, PP, -4 * say);
                    a.sw(T0, -4, PP);
                    break;
                case O_APPLY:
                    a.jumpAndLink(say != 0 ? Library.R_APPLY_LAST : Library.R_APPLY);
                    break;
                case O_RETURN:
                    a.jump(Library.R_GIVE_BACK);
                    break;
                case O_NEED:
                    a.set(A0, say * 4);
                    a.jumpAndLink(Library.R_NEED);
                    break;
                case O_FUNCTION:
                    a.set(T0, (more + 1) * 8 + HEAD_FUNCTION);
                    a.sw(T0, 0, V0);
                    a.setCode(T1, say);
                    a.sw(T1, 4, V0);
                    a.move(A0, V0);
                    a.add(V0, V0, 8 + 4 * more);
                    a.jumpAndLink(Library.R_PUSH);
                    break;
                default:
                    with(say * 4, Library.R_COPY);
                    break;
            }
        }

        /** Orders that fill the same function stand together: its address is taken once. */
        private void fill(int say, int more, int k) {
            boolean again = at(coder.op, k - 1) == O_FILL && at(coder.two, k - 1) >> 8 == more >> 8;
            if (!again) {
                a.lw(T3, 0, FP);
                a.lw(T2, (more >> 8) * 4, FP);
            }
            if (say >= 0) a.lw(T0, say * 4, FP);
            else a.lw(T0, 8 + 4 * ~say, T3);
            a.sw(T0, 8 + 4 * (more & 255), T2);
        }

        private void trouble(int order, int say) {
            switch (order) {
                case O_TRY:
                    a.setCode(A1, say);
                    a.jumpAndLink(Library.R_OPEN);
                    break;
                case O_TRIED:
                    a.jumpAndLink(Library.R_OPENED);
                    break;
                case O_RAISE:
                    a.lw(A0, -4, PP);
                    a.jump(Library.R_RAISE);
                    break;
                case O_THROW:
                    a.set(A0, say);
                    a.jump(Library.R_RAISE);
                    break;
                case O_STEP:
                    library.step();
                    break;
                case O_JOIN:
                    a.jumpAndLink(Library.R_JOIN);
                    break;
                default:
                    a.lw(V1, -4, PP);
                    a.set(V0, VALUE);
                    a.jump(Library.R_FINISH);
                    break;
            }
        }

        private void match(int order, int say, int more) {
            int temp = (TEMPS + (more & 255)) * 4;
            switch (order) {
                case O_MATCH:
                    a.lw(T0, say * 4, FP);
                    a.sw(T0, TEMPS * 4, 0);
                    break;
                case O_MATCH_HELD:
                    a.lw(T1, 0, FP);
                    a.lw(T0, 8 + say * 4, T1);
                    a.sw(T0, TEMPS * 4, 0);
                    break;
                case O_FIELD:
                    a.lw(T0, (TEMPS + (say >> 16)) * 4, 0);
                    a.lw(T1, 4 + (say & 255) * 4, T0);
                    a.sw(T1, (TEMPS + (say >> 8 & 255)) * 4, 0);
                    break;
                case O_CON:
                    a.lw(T0, temp, 0);
                    a.immediate(I_ANDI, T1, T0, 3);
                    a.over(I_BEQ, T1, 0);
                    a.jump(more >> 8);
                    a.lw(T2, 0, T0);
                    a.set(T3, say);
                    a.over(I_BEQ, T2, T3);
                    a.jump(more >> 8);
                    a.lw(T2, 4, T0);
                    a.sw(T2, temp, 0);
                    break;
                case O_SAME:
                    a.lw(T0, temp, 0);
                    a.set(T1, say);
                    a.over(I_BEQ, T0, T1);
                    a.jump(more >> 8);
                    break;
                case O_KEEP:
                    a.lw(T0, (TEMPS + say) * 4, 0);
                    a.sw(T0, (KEPT + more) * 4, 0);
                    break;
                default:
                    with(say * 4, Library.R_BIND);
                    break;
            }
        }
    }

    /** A processor as that of MIPS I: a slot behind each jump, and a loaded register a word late. */
    private static final class Processor {
        private static final long TURNS_MOST = 1L << 44;
        private static final int DIFFERS = 9;

        private final int[] memory;
        private final int[] register = new int[32];
        private int here;
        private int next;
        private int after;
        private int high;
        private int low;
        private int late;
        private int lateWord;
        private boolean stopped;

        Processor(int[] memory) {
            this.memory = memory;
        }

        /** Runs the words till they stop: how it ends; what is seen of it, and its value, go into the counts. */
        int go(int steps, int heap, int[] counts) {
            for (int k = 0; k < 32; k++) put(register, k, 0);
            put(memory, CELL_SIZE, heap * 4);
            put(memory, CELL_STEPS, steps);
            here = WORDS * 4;
            next = here + 4;
            late = 0;
            stopped = false;
            for (long n = 0; n < TURNS_MOST && !stopped; n++) {
                int word = at(memory, here >> 2);
                after = next + 4;
                int due = late;
                int dueWord = lateWord;
                late = 0;
                int kind = word >>> 26;
                if (kind == 0) special(word);
                else if (kind >= 32) transfer(kind, word);
                else if (kind >= 8) immediate(kind, word);
                else leap(kind, word);
                if (due != 0) put(register, due, dueWord);
                here = next;
                next = after;
            }
            put(counts, 0, steps - at(register, LEFT));
            put(counts, 1, at(memory, CELL_COLLECTIONS));
            put(counts, 2, at(register, FREE) - at(memory, CELL_SPACE) >> 2);
            put(counts, 3, (at(register, MOST) >> 2) - PILE_BASE);
            put(counts, 4, at(memory, CELL_OUT));
            put(counts, 5, at(register, V1));
            return stopped ? at(register, V0) : DIFFERS;
        }

        private void write(int k, int word) {
            if (k != 0) put(register, k, word);
        }

        private void special(int word) {
            int a = at(register, word >> 21 & 31);
            int b = at(register, word >> 16 & 31);
            int to = word >> 11 & 31;
            int by = word >> 6 & 31;
            switch (word & 63) {
                case F_SLL:
                    write(to, b << by);
                    break;
                case F_SRL:
                    write(to, b >>> by);
                    break;
                case F_SRA:
                    write(to, b >> by);
                    break;
                case F_JR:
                    after = a;
                    break;
                case F_SYSCALL:
                    stopped = true;
                    break;
                case F_ADDU:
                    write(to, a + b);
                    break;
                case F_SUBU:
                    write(to, a - b);
                    break;
                case F_XOR:
                    write(to, a ^ b);
                    break;
                case F_SLT:
                    write(to, a < b ? 1 : 0);
                    break;
                case F_SLTU:
                    write(to, a + 0x80000000 < b + 0x80000000 ? 1 : 0);
                    break;
                case F_MFHI:
                    write(to, high);
                    break;
                case F_MFLO:
                    write(to, low);
                    break;
                default:
                    longOne(word & 63, a, b);
                    break;
            }
        }

        private void longOne(int function, int a, int b) {
            if (function == F_MULT) {
                long product = (long) a * b;
                low = (int) product;
                high = (int) (product >> 32);
            } else if (function == F_DIV && b != 0) {
                low = a / b;
                high = a % b;
            } else if (function == F_DIVU && b != 0) {
                low = (int) ((a & 0xffffffffL) / (b & 0xffffffffL));
                high = (int) ((a & 0xffffffffL) % (b & 0xffffffffL));
            }
        }

        private void immediate(int kind, int word) {
            int a = at(register, word >> 21 & 31);
            int to = word >> 16 & 31;
            int number = (short) word;
            switch (kind) {
                case I_ADDIU:
                    write(to, a + number);
                    break;
                case I_SLTIU:
                    write(to, a + 0x80000000 < number + 0x80000000 ? 1 : 0);
                    break;
                case I_ANDI:
                    write(to, a & word & 65535);
                    break;
                case I_ORI:
                    write(to, a | word & 65535);
                    break;
                case I_XORI:
                    write(to, a ^ word & 65535);
                    break;
                case I_LUI:
                    write(to, word << 16);
                    break;
                default:
                    break;
            }
        }

        private void leap(int kind, int word) {
            int a = at(register, word >> 21 & 31);
            int b = at(register, word >> 16 & 31);
            int near = next + ((short) word) * 4;
            switch (kind) {
                case I_J:
                    after = (word & 0x3ffffff) * 4;
                    break;
                case I_JAL:
                    write(RA, here + 8);
                    after = (word & 0x3ffffff) * 4;
                    break;
                case I_BEQ:
                    if (a == b) after = near;
                    break;
                case I_BNE:
                    if (a != b) after = near;
                    break;
                case I_BLTZ_GEZ:
                    if (a < 0 == ((word >> 16 & 31) == 0)) after = near;
                    break;
                default:
                    break;
            }
        }

        private void transfer(int kind, int word) {
            int address = at(register, word >> 21 & 31) + (short) word;
            int k = address >> 2;
            int shift = 24 - 8 * (address & 3);
            int to = word >> 16 & 31;
            int there = at(memory, k);
            if (kind == I_LW) {
                late = to;
                lateWord = there;
            } else if (kind == I_LBU) {
                late = to;
                lateWord = there >> shift & 255;
            } else if (kind == I_SW) {
                put(memory, k, at(register, to));
            } else if (kind == I_SB) {
                put(memory, k, there & ~(255 << shift) | (at(register, to) & 255) << shift);
            }
        }
    }

    /** Writes types and values as bytes of the RESULT. */
    private static final class Writer {
        private static final int TURNS_MOST = 1000000;
        private static final int VARIABLES = 2048;
        private static final int PLAIN = 0;
        private static final int LEFT_OF_ARROW = 1;
        private static final int PART = 2;

        private final Types types;
        private final Scope scope;
        private final Lexer lexer;
        private final int[] memory;
        private final byte[] bytes = new byte[WRITTEN_MOST + 2];
        private final int[] variables = new int[VARIABLES];
        private int opened;
        private int variableCount;
        private int written;
        private boolean cut;
        int size;

        Writer(Types types, Scope scope, Lexer lexer, int[] memory) {
            this.types = types;
            this.scope = scope;
            this.lexer = lexer;
            this.memory = memory;
        }

        int byteOf(int k) {
            return byteIn(bytes, k);
        }

        private void open() {
            written = 0;
            cut = false;
        }

        private int close() {
            size = written;
            if (cut) {
                putByte(bytes, written, '.');
                putByte(bytes, written + 1, '.');
                size = written + 2;
            }
            return size;
        }

        private void sign(int b) {
            if (written < WRITTEN_MOST) {
                putByte(bytes, written, b);
                written++;
            } else {
                cut = true;
            }
        }

        private void name(int name) {
            for (int k = 0; k < lexer.sizeOf(name); k++) sign(lexer.letterOf(name, k));
        }

        private void number(int number) {
            if (number < 0) sign('~');
            int rest = number < 0 ? -number : number;
            int unit = 1;
            for (int k = 0; k < 9 && rest / unit >= 10; k++) unit *= 10;
            for (int k = 0; k < 10 && unit > 0; k++) {
                sign('0' + rest / unit % 10);
                unit /= 10;
            }
        }

        /**
         * The types that are open in one another wait in rows that the types lend, each with how it
         * stands and how many of its parts have come. None is within itself, so each waits but once:
         * there is room for them all, however deep and wide they are.
         */
        int writeType(int type) {
            open();
            variableCount = 0;
            opened = 0;
            beginType(types.find(type), PLAIN);
            for (int n = 0; n < TURNS_MOST && opened > 0 && !cut; n++) {
                int node = at(types.left, opened - 1);
                int says = at(types.right, opened - 1);
                int kind = types.kindOf(node);
                int k = says >> 2;
                if (k < types.arityOf(kind)) {
                    put(types.right, opened - 1, says + 4);
                    if (k > 0) between(kind);
                    beginType(types.part(node, k), partStands(kind, k));
                } else {
                    opened--;
                    endType(kind, says & 3);
                }
            }
            return close();
        }

        private void beginType(int node, int how) {
            if (types.isVariable(node)) {
                variable(node);
                return;
            }
            int kind = types.kindOf(node);
            if (isRound(kind, how) || isListed(kind)) sign('(');
            put(types.left, opened, node);
            put(types.right, opened, how);
            opened++;
        }

        private void endType(int kind, int how) {
            if (isRound(kind, how) || isListed(kind)) sign(')');
            if (kind == TYPE_ARROW || kind >= TYPE_PRODUCT) return;
            if (types.arityOf(kind) > 0) sign(' ');
            name(scope.typeName(kind));
        }

        /** Whether ( ) stands around a type of the kind. */
        private static boolean isRound(int kind, int how) {
            return kind == TYPE_ARROW ? how != PLAIN : kind >= TYPE_PRODUCT && how == PART;
        }

        /** Whether ( ) stands around the types ahead of the NAME. */
        private boolean isListed(int kind) {
            return kind != TYPE_ARROW && kind < TYPE_PRODUCT && types.arityOf(kind) > 1;
        }

        private int partStands(int kind, int k) {
            if (kind == TYPE_ARROW) return k == 0 ? LEFT_OF_ARROW : PLAIN;
            return isListed(kind) ? PLAIN : PART;
        }

        private void between(int kind) {
            if (isListed(kind)) {
                comma();
                return;
            }
            sign(' ');
            sign(kind == TYPE_ARROW ? '-' : '*');
            if (kind == TYPE_ARROW) sign('>');
            sign(' ');
        }

        private void comma() {
            sign(',');
            sign(' ');
        }

        private void variable(int node) {
            int k = 0;
            while (k < variableCount && at(variables, k) != node) k++;
            if (k == variableCount && k < VARIABLES) {
                put(variables, k, node);
                variableCount++;
            }
            sign('\'');
            sign('a' + k % 26);
            if (k >= 26) number(k / 26);
        }

        int writeValue(int word) {
            open();
            value(word, 0, false);
            return close();
        }

        /** A value within so many others; with ( ) around it, if it is one that needs them. */
        private void value(int word, int depth, boolean asArgument) {
            if (cut) return;
            if ((word & 1) != 0) {
                number(word >> 1);
            } else if ((word & 3) != 0) {
                constant(word);
            } else {
                object(word >> 2, depth, asArgument);
            }
        }

        private void constant(int word) {
            int kind = word & CLASS_MASK;
            if (kind == (UNIT_WORD & CLASS_MASK)) {
                sign('(');
                sign(')');
            } else if (kind != 0) {
                sign('f');
                sign('n');
            } else if (word == NIL_WORD) {
                sign('[');
                sign(']');
            } else {
                name(scope.conName(word >> 2));
            }
        }

        private void object(int where, int depth, boolean asArgument) {
            int head = at(memory, where);
            int kind = head & 7;
            if (kind == HEAD_FUNCTION) {
                sign('f');
                sign('n');
            } else if (kind == HEAD_STRING) {
                string(where, head >> 3);
            } else if (depth >= NESTED_MOST) {
                sign('#');
            } else if (kind == HEAD_TUPLE) {
                tuple(where, head >> 3, depth);
            } else if (head >> 3 == CON_CONS) {
                list(where, depth);
            } else {
                if (asArgument) sign('(');
                name(head >> 3 == REF_CON ? W_REF : scope.conName(head >> 3));
                sign(' ');
                value(at(memory, where + 1), depth + 1, true);
                if (asArgument) sign(')');
            }
        }

        private void tuple(int where, int fields, int depth) {
            sign('(');
            for (int k = 0; k < fields && !cut; k++) {
                if (k > 0) comma();
                value(at(memory, where + 1 + k), depth + 1, false);
            }
            sign(')');
        }

        private void list(int where, int depth) {
            sign('[');
            int cell = where * 4;
            for (int n = 0; n < HEAP_MOST && cell != NIL_WORD && !cut; n++) {
                int tuple = at(memory, (cell >> 2) + 1) >> 2;
                if (n > 0) comma();
                value(at(memory, tuple + 1), depth + 1, false);
                cell = at(memory, tuple + 2);
            }
            sign(']');
        }

        private void string(int where, int length) {
            sign('"');
            for (int k = 0; k < length && !cut; k++) {
                int b = at(memory, where + 1 + (k >> 2)) >> 24 - 8 * (k & 3) & 255;
                if (b == '"' || b == '\\') {
                    sign('\\');
                    sign(b);
                } else if (b == 9 || b == 10) {
                    sign('\\');
                    sign(b == 9 ? 't' : 'n');
                } else if (b < 32 || b > 126) {
                    sign('\\');
                    sign('0' + b / 100);
                    sign('0' + b / 10 % 10);
                    sign('0' + b % 10);
                } else {
                    sign(b);
                }
            }
            sign('"');
        }
    }

    private final byte[] text = new byte[TEXT_MOST];
    private final int[] memory = new int[MEMORY];
    private final int[] counts = new int[6];
    private final Lexer lexer;
    private final Parser parser;
    private final Checker checker;
    private final Scope scope;
    private final Coder coder;
    private final Machine machine;
    private final Compiler compiler;
    private final Processor processor;
    private final Writer writer;
    private int textSize;
    private int inputSize;
    private int foundFault;
    private int foundPlace;
    private int ending;
    private int outputKept;
    private int compiled;
    private boolean isProgram;

    public LeanHouse() {
        lexer = new Lexer(text);
        Types types = new Types();
        scope = new Scope(types);
        parser = new Parser(lexer);
        checker = new Checker(parser, types, scope);
        coder = new Coder(parser, scope, lexer, memory);
        machine = new Machine(coder, memory);
        compiler = new Compiler(coder, memory);
        processor = new Processor(memory);
        writer = new Writer(types, scope, lexer, memory);
        foundPlace = NONE;
        ending = NOT_ENDED;
    }

    public int feed(int a, int b, int c, int d, int e) throws IllegalStateException {
        if (textSize + 20 > TEXT_MOST) throw new IllegalStateException("the text is full");
        addBytes(a);
        addBytes(b);
        addBytes(c);
        addBytes(d);
        addBytes(e);
        return textSize;
    }

    private void addBytes(int number) {
        for (int shift = 24; shift >= 0; shift -= 8) {
            putByte(text, textSize, number >> shift);
            textSize++;
        }
    }

    public int end(int n) throws IllegalArgumentException {
        if (n < 0 || n > 19 || n > textSize) throw new IllegalArgumentException("not so many bytes");
        textSize -= n;
        return textSize;
    }

    public boolean read() {
        int size = textSize;
        textSize = 0;
        isProgram = false;
        ending = NOT_ENDED;
        foundFault = 0;
        foundPlace = NONE;
        if (!parser.parse(size)) {
            foundFault = lexer.trouble;
            foundPlace = lexer.start;
        } else if (!checker.check()) {
            foundFault = checker.fault;
            foundPlace = checker.place;
        } else {
            coder.code();
            compiled = 0;
            isProgram = true;
        }
        return isProgram;
    }

    public int fault(int what) throws IndexOutOfBoundsException {
        if (what != 0 && what != 1) throw new IndexOutOfBoundsException("no such number of a fault");
        return what == 0 ? foundFault : foundPlace;
    }

    public int give(int number) throws IllegalStateException {
        if (inputSize >= INPUT_MOST) throw new IllegalStateException("the input is full");
        put(memory, INPUT + inputSize, number * 2 + 1);
        inputSize++;
        return inputSize;
    }

    public int take() {
        int had = inputSize;
        inputSize = 0;
        return had;
    }

    public int run(int how, int steps, int heap) throws IllegalArgumentException, IllegalStateException {
        if (how < 0 || how > 2) throw new IllegalArgumentException("no such way to run");
        if (steps < 1 || steps > STEPS_MOST) throw new IllegalArgumentException("so many steps are not allowed");
        if (heap < HEAP_LEAST || heap > HEAP_MOST) throw new IllegalArgumentException("no such heap");
        if (!isProgram) throw new IllegalStateException("there is no program");
        put(memory, CELL_INPUTS, inputSize);
        if (how == 0) {
            ending = machine.go(steps, heap, counts);
        } else {
            if (compiled != how) compiler.compile(how);
            compiled = how;
            ending = processor.go(steps, heap, counts);
        }
        outputKept = Math.min(KEPT_MOST, at(counts, 4));
        return ending;
    }

    public int seen(int what) throws IndexOutOfBoundsException, IllegalStateException {
        if (what < 0 || what > 4) throw new IndexOutOfBoundsException("no such number of a run");
        if (ending < 0) throw new IllegalStateException("there was no run");
        return at(counts, what);
    }

    public int byteAt(int k) throws IndexOutOfBoundsException {
        if (k < 0 || k >= outputKept) throw new IndexOutOfBoundsException("no such byte of the output");
        return at(memory, OUTPUT + (k >> 2)) >> 24 - 8 * (k & 3) & 255;
    }

    public int tell(int what) throws IndexOutOfBoundsException, IllegalStateException {
        if (what != 0 && what != 1) throw new IndexOutOfBoundsException("no such result");
        if (!isProgram) throw new IllegalStateException("there is no program");
        if (what == 0) return writer.writeType(checker.result);
        if (ending != VALUE && ending != RAISED) throw new IllegalStateException("there is no value");
        return writer.writeValue(at(counts, 5));
    }

    public int resultAt(int k) throws IndexOutOfBoundsException {
        if (k < 0 || k >= writer.size) throw new IndexOutOfBoundsException("no such byte of the result");
        return writer.byteOf(k);
    }

    public int count(int what) throws IndexOutOfBoundsException {
        if (what < 0 || what > 2) throw new IndexOutOfBoundsException("no such number");
        if (what == 0) return textSize;
        if (what == 1) return inputSize;
        return isProgram ? scope.conCount - CONS_KNOWN : 0;
    }
}
