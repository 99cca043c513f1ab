import java.util.Arrays;

/**
 * A house of trees that change themselves: programs are trees whose NODES take on STATES by what they meet, and
 * FUNCTIONS that are hot get CODES that hold as long as nothing that they rest on changes.
 */
public final class GraftTrees {
    public static final int NONE = -1;

    // KINDS of NODES. The op that works a NODE out bears the number of its KIND.
    private static final int PARAM = 0;
    private static final int NUMBER = 1;
    private static final int STRING = 2;
    private static final int TRUTH = 3;
    private static final int NULL = 4;
    private static final int READ = 5;
    private static final int WRITE = 6;
    private static final int NAME = 7;
    private static final int PLUS = 8;
    private static final int MINUS = 9;
    private static final int TIMES = 10;
    private static final int OVER = 11;
    private static final int LESS = 12;
    private static final int LESS_OR_SAME = 13;
    private static final int MORE = 14;
    private static final int MORE_OR_SAME = 15;
    private static final int SAME = 16;
    private static final int OTHER = 17;
    private static final int AND = 18;
    private static final int OR = 19;
    private static final int NOT = 20;
    private static final int GET = 21;
    private static final int PUT = 22;
    private static final int CALL = 23;
    private static final int IF = 24;
    private static final int WHILE = 25;
    private static final int RETURN = 26;
    private static final int BREAK = 27;
    private static final int CONTINUE = 28;

    // Ops that are no working out of one NODE.
    private static final int STEP = 29;
    private static final int AGAIN = 30;
    private static final int JUMP = 31;
    private static final int LEFT = 32;
    private static final int BRANCH = 33;
    private static final int POP = 34;
    private static final int END = 35;

    // What a VALUE is; its bits are a number, a truth, a cell, a NAME's number or an OBJECT's.
    private static final int IS_NULL = 0;
    private static final int IS_TRUTH = 1;
    private static final int IS_LONG = 2;
    private static final int IS_BIG = 3;
    private static final int IS_STRING = 4;
    private static final int IS_FUNCTION = 5;
    private static final int IS_OBJECT = 6;

    // SORTS and TAGS.
    private static final int SORT_LONG = 1;
    private static final int SORT_TRUTH = 2;
    private static final int SORT_ANY = 3;

    // What state() answers.
    private static final int NO_RUN = 0;
    private static final int UNDER_WAY = 1;
    private static final int CAME_TO_END = 2;
    private static final int BY_ERROR = 3;

    // The document's limits.
    private static final int TAPE_MOST = 4000;
    private static final int FEED_BYTES = 20;
    private static final int THRESHOLD_MOST = 100;
    private static final int OPEN_MOST = 20;
    private static final int FUNCTIONS_MOST = 50;
    private static final int PARAMS_MOST = 6;
    private static final int LOCALS_MOST = 12;
    private static final int NODES_MOST = 300;
    private static final int ARGS_MOST = 12;
    private static final int STRING_MOST = 200;
    private static final int OBJECTS_MOST = 400;
    private static final int PROPERTIES_MOST = 12;
    private static final int SHAPES_MOST = 200;
    private static final int ROOTS_MOST = 60;
    private static final int FIRST_ROOT = 4;
    private static final int CALLS_MOST = 59;
    private static final int STEPS_MOST = 20000;
    private static final int MADE_MOST = 100000;
    private static final int OUT_MOST = 2000;
    private static final int CODES_MOST = 100;
    private static final int CODES_OF_ROOT_MOST = 8;
    private static final int UNIT_NODES_MOST = 150;
    private static final int COUNT_MOST = 1000000000;
    private static final int BIG_CELLS = 4;
    private static final long LONG_LEAST = 1L << 63;
    private static final int ENTRIES_MOST = 3;
    private static final int CALL_ENTRIES_MOST = 2;

    // No STATEMENT takes more ops than this for each of its NODES.
    private static final int OPS_MOST = NODES_MOST * 4 + 1;
    // Each CALL that is INLINED has two NODES at least, itself and what is ahead of it.
    private static final int UNITS_MOST = UNIT_NODES_MOST / 2 + 1;

    private final int[] tape = new int[TAPE_MOST];
    private int taped = 0;
    private int faultNumber = 0;
    private int faultPlace = NONE;
    private final Cells cells = new Cells();
    private final House house;
    private final Shapes shapes;
    private final Parser parser;
    private final Machine machine;

    public GraftTrees(int threshold) {
        house = new House(cells, Math.max(1, Math.min(threshold, THRESHOLD_MOST)));
        shapes = new Shapes(cells);
        parser = new Parser(cells, house);
        machine = new Machine(cells, house, shapes);
    }

    public int feed(int a, int b, int c, int d, int e) {
        if (taped + FEED_BYTES > TAPE_MOST) {
            return NONE;
        }
        putOnTape(a);
        putOnTape(b);
        putOnTape(c);
        putOnTape(d);
        putOnTape(e);
        return taped;
    }

    private void putOnTape(int four) {
        for (int shift = 24; shift >= 0 && taped < TAPE_MOST; shift -= 8) {
            tape[taped] = (four >>> shift) & 255;
            taped++;
        }
    }

    public int load(int n) {
        if (n < 0 || n > taped) {
            return -2;
        }
        taped = 0;
        machine.drop();
        parser.tokens.scan(tape, 0, n);
        parser.pass(false);
        faultNumber = parser.tokens.faultNumber;
        faultPlace = parser.tokens.faultPlace;
        if (faultNumber != 0) {
            return NONE;
        }
        house.forget();
        shapes.forget();
        parser.pass(true);
        return house.count;
    }

    public int fault(int what) {
        if (what == 0) {
            return faultNumber;
        }
        return what == 1 ? faultPlace : NONE;
    }

    public boolean start(long a, long b) {
        if (!machine.begin(a, b)) {
            return false;
        }
        machine.go(0);
        return true;
    }

    public int run(int n) {
        int made = n < 1 ? 0 : machine.go(n);
        for (int i = 0; i < ROOTS_MOST && machine.isDefining(); i++) {
            parser.tokens.scan(cells.cell, machine.definingFrom() + 1, cells.cell[machine.definingFrom()]);
            int functions = parser.pass(false);
            if (machine.mayDefine(functions, parser.tokens.faultNumber)) {
                parser.pass(true);
                machine.answerDefine();
            }
            made += machine.go(n - made);
        }
        return made;
    }

    public int state() {
        return machine.standing;
    }

    public int error(int what) {
        if (machine.standing != BY_ERROR) {
            return NONE;
        }
        switch (what) {
            case 0: return machine.errorNumber;
            case 1: return machine.errorRoot;
            case 2: return machine.errorNode;
            default: return NONE;
        }
    }

    public int result(int i) {
        if (machine.standing != CAME_TO_END || i < 0 || i >= machine.resultLength) {
            return NONE;
        }
        return machine.resultLetters[i];
    }

    public int out(int i) {
        if (i < 0 || i >= OUT_MOST || i >= machine.outLength) {
            return NONE;
        }
        return machine.outLetters[i];
    }

    public int compile() {
        return house.makeNextCode();
    }

    public int root(int r, int what) {
        return r < 0 || r >= house.count ? NONE : house.tellRoot(r, what);
    }

    public int node(int r, int k, int what) {
        if (r < 0 || r >= house.count || k < 0 || k >= house.roots[r].nodes) {
            return NONE;
        }
        return house.roots[r].tell(k, what);
    }

    public int shape(int s, int what) {
        return s < 0 || s >= shapes.count ? NONE : shapes.tell(s, what);
    }

    public int code(int c, int what) {
        return c < 0 || c >= house.codeCount ? NONE : house.codes[c].tell(what);
    }

    public int frame(int k, int what) {
        if (machine.standing != UNDER_WAY || k < 0 || k >= machine.frames.depth) {
            return NONE;
        }
        int which = machine.frames.depth - 1 - k;
        return machine.frames.tell(which, what, house.roots[machine.frames.root[which]].locals);
    }

    public int total(int what) {
        switch (what) {
            case 0: return machine.steps;
            case 1: return machine.standing == UNDER_WAY ? machine.frames.depth : 0;
            case 2: return machine.frames.most;
            case 3: return shapes.objects;
            case 4: return machine.outLength;
            case 5: return house.count;
            case 6: return shapes.count;
            case 7: return house.codeCount;
            case 8: return house.queued;
            case 9: return house.changes;
            case 10: return house.entered;
            case 11: return house.exits;
            case 12: return house.falls;
            case 13: return shapes.moves;
            case 14: return house.calls;
            case 15: return house.inlined;
            default: return NONE;
        }
    }

    /** The TOKENS of a TEXT, and the first FAULT as they are taken one by one. */
    private static final class Tokens {
        static final int BROKEN = -1;
        static final int FINISH = 0;
        static final int A_NAME = 1;
        static final int A_NUMBER = 2;
        static final int A_STRING = 3;
        static final int FUNCTION_WORD = 4;
        static final int IF_WORD = 5;
        static final int ELSE_WORD = 6;
        static final int WHILE_WORD = 7;
        static final int RETURN_WORD = 8;
        static final int BREAK_WORD = 9;
        static final int CONTINUE_WORD = 10;
        static final int TRUE_WORD = 11;
        static final int FALSE_WORD = 12;
        static final int NULL_WORD = 13;
        // Signs of one byte are that byte, those of two are these.
        static final int SAME_SIGN = 200;
        static final int OTHER_SIGN = 201;
        static final int LESS_OR_SAME_SIGN = 202;
        static final int MORE_OR_SAME_SIGN = 203;
        static final int AND_SIGN = 204;
        static final int OR_SIGN = 205;

        private static final String KEYWORDS = "function if else while return break continue true false null ";
        private static final int WORD_LETTERS = 12;
        private static final int NUMBER_DIGITS = 36;
        private static final int STRING_LETTERS = 40;
        private static final int LINE_END = 10;

        int[] source = new int[0];
        int from = 0;
        private int length = 0;
        private int at = 0;
        private final int[] kinds = new int[TAPE_MOST + 1];
        private final int[] places = new int[TAPE_MOST + 1];
        private final int[] sizes = new int[TAPE_MOST + 1];
        private final int[] words = new int[TAPE_MOST + 1];
        private int count = 0;
        private int next = 0;
        // The TOKEN that is ahead.
        int kind = FINISH;
        int place = 0;
        int size = 0;
        // Where its letters stand first among the NAMES of the TEXT: alike of all NAMES that are the same.
        int word = 0;
        int faultNumber = 0;
        int faultPlace = NONE;

        /** Finds all TOKENS, up to the first that is none: that counts only when it is come to. */
        void scan(int[] bytes, int start, int bytesLong) {
            source = bytes;
            from = Math.max(0, Math.min(start, bytes.length));
            length = Math.max(0, Math.min(Math.min(bytesLong, TAPE_MOST), bytes.length - from));
            at = 0;
            count = 0;
            int last = A_NAME;
            while (count <= TAPE_MOST && last != FINISH && last != BROKEN) {
                skipBlanks();
                places[count] = at;
                last = scanToken();
                kinds[count] = last;
                sizes[count] = at - places[count];
                if (last == BROKEN) {
                    places[count] = at;
                }
                words[count] = last == A_NAME ? firstPlace() : NONE;
                count++;
            }
        }

        private int firstPlace() {
            for (int i = 0; i < count; i++) {
                if (kinds[i] == A_NAME && sizes[i] == sizes[count] && sameBytes(places[i], places[count], sizes[i])) {
                    return places[i];
                }
            }
            return places[count];
        }

        private boolean sameBytes(int placeA, int placeB, int bytes) {
            boolean same = true;
            for (int i = 0; same && i < bytes; i++) {
                same = byteAt(placeA + i) == byteAt(placeB + i);
            }
            return same;
        }

        void rewind() {
            next = 0;
            faultNumber = 0;
            faultPlace = NONE;
            take();
        }

        /** The next TOKEN comes ahead; if it can't be read that is the FAULT. */
        void take() {
            if (faultNumber != 0 || next >= count) {
                return;
            }
            kind = kinds[next];
            place = places[next];
            size = sizes[next];
            word = words[next];
            next++;
            if (kind == BROKEN) {
                faultNumber = 1;
                faultPlace = place;
            }
        }

        void refuse(int number, int where) {
            if (faultNumber == 0) {
                faultNumber = number;
                faultPlace = where;
                kind = BROKEN;
            }
        }

        private int byteAt(int i) {
            return i < 0 || i >= length ? NONE : source[from + i];
        }

        private void skipBlanks() {
            boolean inComment = false;
            while (at < length) {
                int b = byteAt(at);
                if (!inComment && b == '/' && byteAt(at + 1) == '/') {
                    inComment = true;
                } else if (b == LINE_END) {
                    inComment = false;
                } else if (!inComment && b != ' ') {
                    return;
                }
                at++;
            }
        }

        private int scanToken() {
            int first = byteAt(at);
            if (first == NONE) {
                return FINISH;
            }
            if (isLetter(first)) {
                return scanWord();
            }
            if (isDigit(first)) {
                return scanNumber();
            }
            return first == '"' ? scanString() : scanSign(first);
        }

        private int scanWord() {
            int begin = at;
            while (at < length && (isLetter(byteAt(at)) || isDigit(byteAt(at)))) {
                at++;
            }
            if (at - begin > WORD_LETTERS) {
                at = begin;
                return BROKEN;
            }
            return wordKind(begin, at - begin);
        }

        private int wordKind(int begin, int letters) {
            int keyword = FUNCTION_WORD;
            int matched = 0;
            boolean same = true;
            for (int i = 0; i < KEYWORDS.length(); i++) {
                char c = KEYWORDS.charAt(i);
                if (c != ' ') {
                    same = same && matched < letters && byteAt(begin + matched) == c;
                    matched++;
                } else if (same && matched == letters) {
                    return keyword;
                } else {
                    keyword++;
                    matched = 0;
                    same = true;
                }
            }
            return A_NAME;
        }

        private int scanNumber() {
            int begin = at;
            while (at < length && isDigit(byteAt(at))) {
                at++;
            }
            if (at - begin > NUMBER_DIGITS) {
                at = begin;
                return BROKEN;
            }
            return A_NUMBER;
        }

        private int scanString() {
            at++;
            for (int letters = 0; letters <= STRING_LETTERS; letters++) {
                int b = byteAt(at);
                if (b == '"') {
                    at++;
                    return A_STRING;
                }
                if (b < 32 || b > 126 || letters == STRING_LETTERS) {
                    return BROKEN;
                }
                at++;
            }
            return BROKEN;
        }

        private int scanSign(int first) {
            switch (first) {
                case '(': case ')': case '{': case '}': case '[': case ']': case ',': case ';':
                case '.': case '+': case '-': case '*': case '/':
                    at++;
                    return first;
                case '=': return signWith('=', first, SAME_SIGN);
                case '!': return signWith('=', first, OTHER_SIGN);
                case '<': return signWith('=', first, LESS_OR_SAME_SIGN);
                case '>': return signWith('=', first, MORE_OR_SAME_SIGN);
                case '&': return signWith('&', BROKEN, AND_SIGN);
                case '|': return signWith('|', BROKEN, OR_SIGN);
                default: return BROKEN;
            }
        }

        private int signWith(int second, int alone, int both) {
            at++;
            if (byteAt(at) != second) {
                return alone;
            }
            at++;
            return both;
        }

        private static boolean isLetter(int b) {
            return (b >= 'a' && b <= 'z') || (b >= 'A' && b <= 'Z');
        }

        private static boolean isDigit(int b) {
            return b >= '0' && b <= '9';
        }
    }

    /** One FUNCTION as it is read: its NODES in the order of their TOKENS, chained in the order of their numbers. */
    private static final class Draft {
        private final Tokens tokens;
        private int nodes = 0;
        private final int[] kind = new int[NODES_MOST];
        private final int[] place = new int[NODES_MOST];
        private final int[] size = new int[NODES_MOST];
        private final int[] word = new int[NODES_MOST];
        private final int[] extra = new int[NODES_MOST];
        private final long[] value = new long[NODES_MOST];
        private final int[] next = new int[NODES_MOST];
        private final int[] tail = new int[NODES_MOST];
        private final int[] number = new int[NODES_MOST];
        private int locals = 0;
        private int params = 0;
        private final int[] localWord = new int[LOCALS_MOST];
        private int ops = 0;
        private final int[] opWhat = new int[OPS_MOST];
        private final int[] opNode = new int[OPS_MOST];
        private final int[] opArg = new int[OPS_MOST];

        Draft(Tokens tokens) {
            this.tokens = tokens;
        }

        void clear() {
            nodes = 0;
            locals = 0;
            params = 0;
            ops = 0;
        }

        /** A NODE whose TOKEN is the one ahead. */
        int add(int ofKind) {
            if (nodes == NODES_MOST) {
                tokens.refuse(4, tokens.place);
                return 0;
            }
            int id = nodes;
            nodes++;
            kind[id] = ofKind;
            place[id] = tokens.place;
            size[id] = tokens.size;
            word[id] = tokens.word;
            extra[id] = 0;
            value[id] = 0;
            next[id] = NONE;
            tail[id] = id;
            return id;
        }

        /** The chain that begins with a goes on with the one that begins with b. */
        int join(int a, int b) {
            if (a == NONE) {
                return b;
            }
            if (b != NONE) {
                next[tail[a]] = b;
                tail[a] = tail[b];
            }
            return a;
        }

        int emit(int what, int id, int arg) {
            if (ops == OPS_MOST) {
                return 0;
            }
            opWhat[ops] = what;
            opNode[ops] = id;
            opArg[ops] = arg;
            ops++;
            return ops - 1;
        }

        void aimHere(int op) {
            opArg[op] = ops;
        }

        void stepFor(int op, int id) {
            opNode[op] = id;
        }

        /** What was worked out as a READ or GET becomes the target of a = : its own op comes behind the E. */
        void turnIntoTarget(int id) {
            if (ops > 0) {
                ops--;
            }
            kind[id] = kind[id] == NAME ? WRITE : PUT;
        }

        boolean isName(int id) {
            return kind[id] == NAME;
        }

        void setValue(int id, int extraBits, long bits) {
            extra[id] = extraBits;
            value[id] = bits;
        }

        void setRightSide(int id, int right) {
            extra[id] = right;
        }

        void addParam() {
            if (params == PARAMS_MOST) {
                tokens.refuse(4, tokens.place);
            } else if (localOf(tokens.word) != NONE) {
                tokens.refuse(6, tokens.place);
            } else {
                localWord[locals] = tokens.word;
                locals++;
                params++;
            }
        }

        /** The NAME of this NODE is a LOCAL, as its = is there. */
        void addLocal(int id) {
            if (localOf(word[id]) != NONE) {
                return;
            }
            if (locals == LOCALS_MOST) {
                tokens.refuse(4, place[id]);
                return;
            }
            localWord[locals] = word[id];
            locals++;
        }

        private int localOf(int letters) {
            for (int i = 0; i < locals; i++) {
                if (localWord[i] == letters) {
                    return i;
                }
            }
            return NONE;
        }

        void writeTo(Root root, House house, int head) {
            int id = head;
            for (int k = 0; k < nodes && id != NONE; k++) {
                number[id] = k;
                id = next[id];
            }
            root.clear(nodes, locals, params);
            for (int i = 0; i < nodes; i++) {
                writeNode(root, house, i);
            }
            for (int i = 0; i < ops; i++) {
                int k = number[opNode[i]];
                root.opWhat[i] = opWhat[i] < STEP ? root.kind[k] : opWhat[i];
                root.opNode[i] = k;
                root.opArg[i] = opArg[i];
            }
        }

        private void writeNode(Root root, House house, int id) {
            int k = number[id];
            root.place[k] = place[id];
            root.kind[k] = kind[id];
            root.value[k] = value[id];
            boolean twoSided = kind[id] >= PLUS && kind[id] <= OR;
            root.extra[k] = twoSided ? number[extra[id]] : extra[id];
            if (kind[id] == PARAM || kind[id] == WRITE || kind[id] == NAME) {
                int local = localOf(word[id]);
                if (kind[id] == NAME) {
                    root.kind[k] = local == NONE ? NAME : READ;
                }
                root.value[k] = local == NONE ? house.nameOf(tokens.source, tokens.from + place[id], size[id]) : local;
            }
        }
    }

    /** Reads FUNCTIONS, TOKEN by TOKEN; their depth is bounded by the 20 signs that may be open. */
    private static final class Parser {
        private static final int LAST_LEVEL = 5;

        final Tokens tokens = new Tokens();
        private final Draft draft = new Draft(tokens);
        private final Cells cells;
        private final House house;
        private final Big big = new Big();
        private final int[] toldWord = new int[FUNCTIONS_MOST];
        private int toldSize = 0;
        private int told = 0;
        private int open = 0;
        private boolean real = false;
        private int target = NONE;
        private int loopAgain = NONE;
        private int loopExit = NONE;

        Parser(Cells cells, House house) {
            this.cells = cells;
            this.house = house;
        }

        /** Reads the TEXT that was scanned; only a pass that is real DEFINES, so a FAULT leaves nothing behind. */
        int pass(boolean isReal) {
            real = isReal;
            told = 0;
            open = 0;
            tokens.rewind();
            for (int i = 0; i <= FUNCTIONS_MOST && goesOn() && (i == 0 || tokens.kind != Tokens.FINISH); i++) {
                beginFunction();
                int head = readHead();
                head = draft.join(head, readBlock());
                draft.emit(END, 0, 0);
                if (real && goesOn() && told > 0) {
                    int at = tokens.from + toldWord[told - 1];
                    house.define(draft, head, house.nameOf(tokens.source, at, toldSize));
                }
            }
            return told;
        }

        private boolean goesOn() {
            return tokens.faultNumber == 0;
        }

        private void expect(int kind) {
            if (tokens.kind == kind) {
                tokens.take();
            } else {
                tokens.refuse(2, tokens.place);
            }
        }

        private void expectOpening(int kind) {
            if (tokens.kind != kind) {
                tokens.refuse(2, tokens.place);
                return;
            }
            countOpening();
            tokens.take();
        }

        private void countOpening() {
            if (open == OPEN_MOST) {
                tokens.refuse(3, tokens.place);
            } else {
                open++;
            }
        }

        private void expectClosing(int kind) {
            if (tokens.kind == kind) {
                open--;
                tokens.take();
            } else {
                tokens.refuse(2, tokens.place);
            }
        }

        private void beginFunction() {
            draft.clear();
            loopAgain = NONE;
            loopExit = NONE;
            expect(Tokens.FUNCTION_WORD);
            readFunctionName();
        }

        private void readFunctionName() {
            if (tokens.kind != Tokens.A_NAME) {
                tokens.refuse(2, tokens.place);
                return;
            }
            if (told == FUNCTIONS_MOST) {
                tokens.refuse(4, tokens.place);
                return;
            }
            for (int i = 0; i < told; i++) {
                if (toldWord[i] == tokens.word) {
                    tokens.refuse(6, tokens.place);
                    return;
                }
            }
            toldWord[told] = tokens.word;
            toldSize = tokens.size;
            told++;
            tokens.take();
        }

        private int readHead() {
            int head = NONE;
            expectOpening('(');
            if (tokens.kind != ')') {
                boolean more = true;
                for (int i = 0; i <= PARAMS_MOST && more; i++) {
                    head = draft.join(head, readParam());
                    more = goesOn() && tokens.kind == ',';
                    if (more) {
                        tokens.take();
                    }
                }
            }
            expectClosing(')');
            return head;
        }

        private int readParam() {
            if (tokens.kind != Tokens.A_NAME) {
                tokens.refuse(2, tokens.place);
                return NONE;
            }
            draft.addParam();
            int id = draft.add(PARAM);
            draft.emit(PARAM, id, 0);
            tokens.take();
            return id;
        }

        private int readBlock() {
            int head = NONE;
            expectOpening('{');
            for (int i = 0; i < TAPE_MOST && goesOn() && tokens.kind != '}'; i++) {
                head = draft.join(head, readStatement());
            }
            expectClosing('}');
            return head;
        }

        private int readStatement() {
            switch (tokens.kind) {
                case Tokens.IF_WORD: return readIf();
                case Tokens.WHILE_WORD: return readWhile();
                case Tokens.RETURN_WORD: return readReturn();
                case Tokens.BREAK_WORD: return readLeap(BREAK, loopExit);
                case Tokens.CONTINUE_WORD: return readLeap(CONTINUE, loopAgain);
                default: return readPlain();
            }
        }

        private int readPlain() {
            int step = draft.emit(STEP, 0, 0);
            int head = readExpression();
            draft.stepFor(step, head);
            expect(';');
            draft.emit(POP, 0, 0);
            return head;
        }

        private int readIf() {
            int id = draft.add(IF);
            tokens.take();
            draft.emit(STEP, id, 0);
            expectOpening('(');
            int head = draft.join(id, readExpression());
            expectClosing(')');
            int toElse = draft.emit(BRANCH, id, 0);
            head = draft.join(head, readBlock());
            if (tokens.kind != Tokens.ELSE_WORD) {
                draft.aimHere(toElse);
                return head;
            }
            tokens.take();
            int toEnd = draft.emit(JUMP, 0, 0);
            draft.aimHere(toElse);
            head = draft.join(head, readBlock());
            draft.aimHere(toEnd);
            return head;
        }

        /** The way out stands ahead of the loop, so that break and E can aim at it before its end is known. */
        private int readWhile() {
            int outerAgain = loopAgain;
            int outerExit = loopExit;
            int id = draft.add(WHILE);
            tokens.take();
            draft.emit(STEP, id, 0);
            int toFirst = draft.emit(JUMP, 0, 0);
            int exit = draft.emit(JUMP, 0, 0);
            int again = draft.emit(AGAIN, id, 0);
            draft.aimHere(toFirst);
            expectOpening('(');
            int head = draft.join(id, readExpression());
            expectClosing(')');
            draft.emit(BRANCH, id, exit);
            loopAgain = again;
            loopExit = exit;
            head = draft.join(head, readBlock());
            loopAgain = outerAgain;
            loopExit = outerExit;
            draft.emit(JUMP, 0, again);
            draft.aimHere(exit);
            return head;
        }

        private int readReturn() {
            int id = draft.add(RETURN);
            tokens.take();
            draft.emit(STEP, id, 0);
            int head = id;
            if (tokens.kind == ';') {
                draft.emit(END, 0, 0);
            } else {
                head = draft.join(id, readExpression());
                draft.emit(RETURN, id, 0);
            }
            expect(';');
            return head;
        }

        private int readLeap(int kind, int goal) {
            int id = draft.add(kind);
            if (goal == NONE) {
                tokens.refuse(5, tokens.place);
            }
            tokens.take();
            draft.emit(STEP, id, 0);
            draft.emit(JUMP, 0, goal);
            expect(';');
            return id;
        }

        private int readExpression() {
            int head = readBinary(0);
            if (tokens.kind != '=') {
                return head;
            }
            if (target == NONE) {
                tokens.refuse(2, tokens.place);
                return head;
            }
            int id = target;
            countOpening();
            if (draft.isName(id)) {
                draft.addLocal(id);
            }
            draft.turnIntoTarget(id);
            tokens.take();
            head = draft.join(head, readExpression());
            // What the op does is told by the NODE's KIND.
            draft.emit(PUT, id, 0);
            open--;
            return head;
        }

        private int readBinary(int least) {
            int head = readUnary();
            int most = LAST_LEVEL;
            for (int i = 0; i < NODES_MOST && goesOn(); i++) {
                int level = levelOf(tokens.kind);
                if (level < least || level > most) {
                    return head;
                }
                int id = draft.add(kindOf(tokens.kind));
                tokens.take();
                boolean lazy = level <= 1;
                int leap = lazy ? draft.emit(LEFT, id, 0) : 0;
                int right = level == LAST_LEVEL ? readUnary() : readBinary(level + 1);
                draft.emit(PLUS, id, 0);
                if (lazy) {
                    draft.aimHere(leap);
                }
                draft.setRightSide(id, right);
                head = draft.join(draft.join(id, head), right);
                target = NONE;
                // Neither EQUAL nor LESS has a second sign of its own level.
                most = level == 2 || level == 3 ? level - 1 : level;
            }
            return head;
        }

        private static int levelOf(int sign) {
            switch (sign) {
                case Tokens.OR_SIGN: return 0;
                case Tokens.AND_SIGN: return 1;
                case Tokens.SAME_SIGN: case Tokens.OTHER_SIGN: return 2;
                case '<': case Tokens.LESS_OR_SAME_SIGN: case '>': case Tokens.MORE_OR_SAME_SIGN: return 3;
                case '+': case '-': return 4;
                case '*': case '/': return LAST_LEVEL;
                default: return NONE;
            }
        }

        private static int kindOf(int sign) {
            switch (sign) {
                case '+': return PLUS;
                case '-': return MINUS;
                case '*': return TIMES;
                case '/': return OVER;
                case '<': return LESS;
                case Tokens.LESS_OR_SAME_SIGN: return LESS_OR_SAME;
                case '>': return MORE;
                case Tokens.MORE_OR_SAME_SIGN: return MORE_OR_SAME;
                case Tokens.SAME_SIGN: return SAME;
                case Tokens.OTHER_SIGN: return OTHER;
                case Tokens.AND_SIGN: return AND;
                default: return OR;
            }
        }

        private int readUnary() {
            if (tokens.kind != '!') {
                return readParts();
            }
            countOpening();
            int id = draft.add(NOT);
            tokens.take();
            int head = draft.join(id, readUnary());
            draft.emit(NOT, id, 0);
            open--;
            target = NONE;
            return head;
        }

        private int readParts() {
            int head = readAtom();
            for (int i = 0; i < NODES_MOST && goesOn(); i++) {
                if (tokens.kind == '.') {
                    head = readDot(head);
                } else if (tokens.kind == '[') {
                    head = readIndex(head);
                } else if (tokens.kind == '(') {
                    head = readCall(head);
                } else {
                    return head;
                }
            }
            return head;
        }

        private int readDot(int ahead) {
            int id = draft.add(GET);
            tokens.take();
            if (real) {
                draft.setValue(id, 0, cells.keepText(tokens.source, tokens.from + tokens.place, tokens.size));
            }
            expect(Tokens.A_NAME);
            draft.emit(GET, id, 0);
            target = id;
            return draft.join(id, ahead);
        }

        private int readIndex(int ahead) {
            countOpening();
            int id = draft.add(GET);
            draft.setValue(id, 1, NONE);
            tokens.take();
            int head = draft.join(draft.join(id, ahead), readExpression());
            expectClosing(']');
            draft.emit(GET, id, 0);
            target = id;
            return head;
        }

        private int readCall(int ahead) {
            countOpening();
            int id = draft.add(CALL);
            tokens.take();
            int head = draft.join(id, ahead);
            int args = 0;
            boolean more = tokens.kind != ')';
            for (int i = 0; i <= ARGS_MOST && more; i++) {
                if (args == ARGS_MOST) {
                    refuseArg();
                } else {
                    head = draft.join(head, readExpression());
                    args++;
                }
                more = goesOn() && tokens.kind == ',';
                if (more) {
                    tokens.take();
                }
            }
            expectClosing(')');
            draft.setValue(id, 0, args);
            draft.emit(CALL, id, 0);
            target = NONE;
            return head;
        }

        /** One E too many; but a TOKEN that can't stand there at all, or lies too deep, has the lesser number. */
        private void refuseArg() {
            boolean opens = tokens.kind == '(' || tokens.kind == '!';
            if (!opens && literalKind() == NONE) {
                tokens.refuse(2, tokens.place);
            } else if (opens && open == OPEN_MOST) {
                tokens.refuse(3, tokens.place);
            } else {
                tokens.refuse(4, tokens.place);
            }
        }

        private int readAtom() {
            int kind = literalKind();
            if (kind != NONE) {
                int id = draft.add(kind);
                setLiteral(id, kind);
                draft.emit(kind, id, 0);
                tokens.take();
                target = kind == NAME ? id : NONE;
                return id;
            }
            expectOpening('(');
            if (!goesOn()) {
                return 0;
            }
            int head = readExpression();
            expectClosing(')');
            target = NONE;
            return head;
        }

        private int literalKind() {
            switch (tokens.kind) {
                case Tokens.A_NAME: return NAME;
                case Tokens.A_NUMBER: return NUMBER;
                case Tokens.A_STRING: return STRING;
                case Tokens.TRUE_WORD: case Tokens.FALSE_WORD: return TRUTH;
                case Tokens.NULL_WORD: return NULL;
                default: return NONE;
            }
        }

        private void setLiteral(int id, int kind) {
            int at = tokens.from + tokens.place;
            if (kind == TRUTH) {
                draft.setValue(id, 0, tokens.kind == Tokens.TRUE_WORD ? 1 : 0);
            } else if (kind == STRING && real) {
                draft.setValue(id, 0, cells.keepText(tokens.source, at + 1, tokens.size - 2));
            } else if (kind == NUMBER && real) {
                big.setDigits(tokens.source, at, tokens.size);
                boolean fits = big.fitsLong();
                draft.setValue(id, fits ? 0 : 1, fits ? big.toLong() : cells.keepBig(big));
            }
        }
    }

    /** A number of at most 36 digits, in four limbs of nine. */
    private static final class Big {
        private static final int BASE = 1000000000;
        private static final int LIMB_DIGITS = 9;

        private final int[] limb = new int[BIG_CELLS];
        private boolean below = false;
        private final long[] wide = new long[BIG_CELLS * 2];
        private final long[] part = new long[BIG_CELLS + 1];

        void setLong(long number) {
            long rest = number;
            below = number < 0;
            for (int i = 0; i < BIG_CELLS; i++) {
                limb[i] = Math.abs((int) (rest % BASE));
                rest = rest / BASE;
            }
        }

        /** Each cell has the sign of the number. */
        void setCells(int[] cell, int at) {
            below = false;
            for (int i = 0; i < BIG_CELLS; i++) {
                below = below || cell[at + i] < 0;
                limb[i] = Math.abs(cell[at + i]);
            }
        }

        void storeIn(int[] cell, int at) {
            for (int i = 0; i < BIG_CELLS; i++) {
                cell[at + i] = below ? -limb[i] : limb[i];
            }
        }

        void setDigits(int[] source, int from, int digits) {
            below = false;
            Arrays.fill(limb, 0);
            for (int i = 0; i < digits; i++) {
                long carry = source[from + i] - '0';
                for (int j = 0; j < BIG_CELLS; j++) {
                    long sum = limb[j] * 10L + carry;
                    limb[j] = (int) (sum % BASE);
                    carry = sum / BASE;
                }
            }
        }

        /** Of a number that is not below 0. */
        boolean fitsLong() {
            // Nineteen digits are less than 2 to the 64: by the sign they tell if they are 2 to the 63 or more.
            return limb[3] == 0 && limb[2] < 10 && ((long) limb[2] * BASE + limb[1]) * BASE + limb[0] >= 0;
        }

        long toLong() {
            return ((long) limb[2] * BASE + limb[1]) * BASE + limb[0];
        }

        boolean isZero() {
            return (limb[0] | limb[1] | limb[2] | limb[3]) == 0;
        }

        int compareWith(Big other) {
            if (below != other.below) {
                return below ? -1 : 1;
            }
            return below ? -compareSize(other) : compareSize(other);
        }

        private int compareSize(Big other) {
            for (int i = BIG_CELLS - 1; i >= 0; i--) {
                if (limb[i] != other.limb[i]) {
                    return Integer.compare(limb[i], other.limb[i]);
                }
            }
            return 0;
        }

        /** Becomes a + b, or a - b; false if that is too great. */
        boolean setSum(Big a, Big b, boolean minus) {
            boolean otherBelow = b.below != minus;
            if (a.below != otherBelow) {
                setDifference(a, b, otherBelow);
                return true;
            }
            int carry = 0;
            for (int i = 0; i < BIG_CELLS; i++) {
                int sum = a.limb[i] + b.limb[i] + carry;
                carry = sum >= BASE ? 1 : 0;
                limb[i] = sum - carry * BASE;
            }
            below = a.below && !isZero();
            return carry == 0;
        }

        private void setDifference(Big a, Big b, boolean otherBelow) {
            boolean swapped = a.compareSize(b) < 0;
            Big more = swapped ? b : a;
            Big less = swapped ? a : b;
            int borrow = 0;
            for (int i = 0; i < BIG_CELLS; i++) {
                int rest = more.limb[i] - less.limb[i] - borrow;
                borrow = rest < 0 ? 1 : 0;
                limb[i] = rest + borrow * BASE;
            }
            below = (swapped ? otherBelow : a.below) && !isZero();
        }

        /** Becomes a * b; false if that is too great. */
        boolean setProduct(Big a, Big b) {
            Arrays.fill(wide, 0);
            for (int i = 0; i < BIG_CELLS; i++) {
                long carry = 0;
                for (int j = 0; j < BIG_CELLS; j++) {
                    long sum = wide[i + j] + (long) a.limb[i] * b.limb[j] + carry;
                    wide[i + j] = sum % BASE;
                    carry = sum / BASE;
                }
                wide[i + BIG_CELLS] = carry;
            }
            boolean fits = true;
            for (int i = 0; i < BIG_CELLS; i++) {
                limb[i] = (int) wide[i];
                fits = fits && wide[i + BIG_CELLS] == 0;
            }
            below = a.below != b.below && !isZero();
            return fits;
        }

        /** Becomes a / b towards 0, limb by limb, each found by halves; b is not 0. */
        void setQuotient(Big a, Big b) {
            Arrays.fill(wide, 0);
            for (int i = BIG_CELLS - 1; i >= 0; i--) {
                for (int j = BIG_CELLS; j > 0; j--) {
                    wide[j] = wide[j - 1];
                }
                wide[0] = a.limb[i];
                int low = 0;
                int high = BASE - 1;
                for (int turn = 0; turn < 32 && low < high; turn++) {
                    int middle = low + (high - low + 1) / 2;
                    setPart(b, middle);
                    low = restHoldsPart() ? middle : low;
                    high = low == middle ? high : middle - 1;
                }
                setPart(b, low);
                takePart();
                limb[i] = low;
            }
            below = a.below != b.below && !isZero();
        }

        private boolean restHoldsPart() {
            for (int i = BIG_CELLS; i >= 0; i--) {
                if (wide[i] != part[i]) {
                    return wide[i] > part[i];
                }
            }
            return true;
        }

        private void takePart() {
            long borrow = 0;
            for (int i = 0; i <= BIG_CELLS; i++) {
                long rest = wide[i] - part[i] - borrow;
                borrow = rest < 0 ? 1 : 0;
                wide[i] = rest + borrow * BASE;
            }
        }

        private void setPart(Big b, int times) {
            long carry = 0;
            for (int i = 0; i < BIG_CELLS; i++) {
                long product = (long) b.limb[i] * times + carry;
                part[i] = product % BASE;
                carry = product / BASE;
            }
            part[BIG_CELLS] = carry;
        }

        /** Writes the number, SHOWN, from that index on; answers the index behind it. */
        int showIn(int[] letters, int from) {
            int at = from;
            if (below && at < letters.length) {
                letters[at] = '-';
                at++;
            }
            boolean begun = false;
            for (int i = BIG_CELLS - 1; i >= 0; i--) {
                int power = BASE / 10;
                for (int j = 0; j < LIMB_DIGITS && power > 0; j++) {
                    int digit = limb[i] / power % 10;
                    power = power / 10;
                    boolean last = i == 0 && j == LIMB_DIGITS - 1;
                    begun = begun || digit != 0 || last;
                    if (begun && at < letters.length) {
                        letters[at] = '0' + digit;
                        at++;
                    }
                }
            }
            return at;
        }
    }

    /** STRINGS (their length, then their letters) and BIG numbers: of TEXTS, of PROPERTIES, and MADE in a RUN. */
    private static final class Cells {
        // A byte of a TEXT brings two cells at most; all bytes are those of one tape and of 56 STRINGS.
        private static final int TEXTS_MOST = 2 * (TAPE_MOST + (ROOTS_MOST - FIRST_ROOT) * STRING_MOST) + 200;
        private static final int WORDS_MOST = TEXTS_MOST + SHAPES_MOST * (STRING_MOST + 1);
        private static final int SHOWN_MOST = 2 * STRING_MOST;

        final int[] cell = new int[WORDS_MOST + MADE_MOST];
        private int texts = 0;
        private int words = TEXTS_MOST;
        private int made = WORDS_MOST;
        // What is SHOWN, one VALUE behind the other.
        final int[] shown = new int[SHOWN_MOST];
        int shownLength = 0;
        // What kind() answers, by what a VALUE is.
        final int[] kindString = new int[IS_OBJECT + 1];

        Cells() {
            kindString[IS_NULL] = keepOwn("null");
            kindString[IS_TRUTH] = keepOwn("truth");
            kindString[IS_LONG] = keepOwn("number");
            kindString[IS_BIG] = kindString[IS_LONG];
            kindString[IS_STRING] = keepOwn("string");
            kindString[IS_FUNCTION] = keepOwn("function");
            kindString[IS_OBJECT] = keepOwn("object");
        }

        int textsMark() {
            return texts;
        }

        void forgetTexts(int mark) {
            texts = mark;
        }

        void forgetWords() {
            words = TEXTS_MOST;
        }

        void forgetMade() {
            made = WORDS_MOST;
        }

        boolean mayMake(int cells) {
            return made + cells <= WORDS_MOST + MADE_MOST;
        }

        int keepText(int[] source, int from, int letters) {
            if (letters < 0 || from < 0 || from + letters > source.length || texts + letters + 1 > TEXTS_MOST) {
                return 0;
            }
            int at = texts;
            cell[at] = letters;
            System.arraycopy(source, from, cell, at + 1, letters);
            texts += letters + 1;
            return at;
        }

        int keepOwn(String word) {
            if (texts + word.length() + 1 > TEXTS_MOST) {
                return 0;
            }
            int at = texts;
            cell[at] = word.length();
            for (int i = 0; i < word.length(); i++) {
                cell[at + 1 + i] = word.charAt(i);
            }
            texts += word.length() + 1;
            return at;
        }

        int keepBig(Big big) {
            if (texts + BIG_CELLS > TEXTS_MOST) {
                return 0;
            }
            int at = texts;
            big.storeIn(cell, at);
            texts += BIG_CELLS;
            return at;
        }

        /** A PROPERTY stays from RUN to RUN, what the RUN has MADE does not. */
        int keepWord(int string) {
            int length = cell[string];
            if (words + length + 1 > WORDS_MOST) {
                return string;
            }
            int at = words;
            System.arraycopy(cell, string, cell, at, length + 1);
            words += length + 1;
            return at;
        }

        int makeBig(Big big) {
            int at = made;
            if (!mayMake(BIG_CELLS)) {
                return 0;
            }
            big.storeIn(cell, at);
            made += BIG_CELLS;
            return at;
        }

        int makeShown() {
            int at = made;
            if (!mayMake(shownLength + 1)) {
                return 0;
            }
            cell[at] = shownLength;
            System.arraycopy(shown, 0, cell, at + 1, shownLength);
            made += shownLength + 1;
            return at;
        }

        void showString(int string) {
            int letters = Math.min(cell[string], SHOWN_MOST - shownLength);
            System.arraycopy(cell, string + 1, shown, shownLength, letters);
            shownLength += letters;
        }

        void showOwn(String word) {
            for (int i = 0; i < word.length() && shownLength < SHOWN_MOST; i++) {
                shown[shownLength] = word.charAt(i);
                shownLength++;
            }
        }

        boolean same(int stringA, int stringB) {
            int length = cell[stringA];
            boolean same = length == cell[stringB];
            for (int i = 1; same && i <= length; i++) {
                same = cell[stringA + i] == cell[stringB + i];
            }
            return same;
        }
    }

    /** SHAPES, which stay from RUN to RUN, and the OBJECTS of the RUN. */
    private static final class Shapes {
        private final Cells cells;
        int count = 1;
        private final int[] parent = new int[SHAPES_MOST];
        final int[] sort = new int[SHAPES_MOST];
        final int[] heir = new int[SHAPES_MOST];
        final int[] size = new int[SHAPES_MOST];
        private final int[] word = new int[SHAPES_MOST];
        private final int[] child = new int[SHAPES_MOST];
        private final int[] sibling = new int[SHAPES_MOST];
        private final int[] line = new int[PROPERTIES_MOST];
        int objects = 0;
        final int[] ofObject = new int[OBJECTS_MOST];
        private final int[] kind = new int[OBJECTS_MOST * PROPERTIES_MOST];
        private final long[] bits = new long[OBJECTS_MOST * PROPERTIES_MOST];
        int moves = 0;

        Shapes(Cells cells) {
            this.cells = cells;
            forget();
        }

        void forget() {
            count = 1;
            parent[0] = NONE;
            heir[0] = NONE;
            size[0] = 0;
            child[0] = NONE;
            sibling[0] = NONE;
            moves = 0;
            forgetObjects();
            cells.forgetWords();
        }

        void forgetObjects() {
            objects = 0;
        }

        int kindAt(int object, int slot) {
            return kind[object * PROPERTIES_MOST + slot];
        }

        long bitsAt(int object, int slot) {
            return bits[object * PROPERTIES_MOST + slot];
        }

        void setProperty(int object, int slot, int newKind, long newBits) {
            kind[object * PROPERTIES_MOST + slot] = newKind;
            bits[object * PROPERTIES_MOST + slot] = newBits;
        }

        int makeObject() {
            if (objects == OBJECTS_MOST) {
                return NONE;
            }
            ofObject[objects] = 0;
            objects++;
            return objects - 1;
        }

        boolean isObsolete(int s) {
            return heir[s] != NONE;
        }

        /** The SHAPE that one of this SHAPE comes to. */
        int settled(int s) {
            int at = s;
            for (int i = 0; i < SHAPES_MOST && heir[at] != NONE; i++) {
                at = heir[at];
            }
            return at;
        }

        void moveObject(int object) {
            for (int i = 0; i < SHAPES_MOST && heir[ofObject[object]] != NONE; i++) {
                ofObject[object] = heir[ofObject[object]];
                moves++;
            }
        }

        /** Which of the PROPERTIES of a SHAPE the STRING is. */
        int slotOf(int s, int string) {
            int at = s;
            for (int i = 0; i < PROPERTIES_MOST && at > 0; i++) {
                if (cells.same(word[at], string)) {
                    return size[at] - 1;
                }
                at = parent[at];
            }
            return NONE;
        }

        int sortAt(int s, int slot) {
            int at = s;
            for (int i = 0; i < PROPERTIES_MOST && size[at] > slot + 1; i++) {
                at = parent[at];
            }
            return sort[at];
        }

        int childOf(int s, int string, int ofSort) {
            int at = child[s];
            for (int i = 0; i < SHAPES_MOST && at != NONE; i++) {
                if (sort[at] == ofSort && cells.same(word[at], string)) {
                    return at;
                }
                at = sibling[at];
            }
            return NONE;
        }

        /** The CHILD that is wanted and not there; NONE if there is no place for it. */
        int makeChild(int s, int string, int ofSort) {
            if (count == SHAPES_MOST) {
                return NONE;
            }
            int fresh = count;
            count++;
            parent[fresh] = s;
            sort[fresh] = ofSort;
            heir[fresh] = NONE;
            size[fresh] = size[s] + 1;
            word[fresh] = cells.keepWord(string);
            child[fresh] = NONE;
            sibling[fresh] = child[s];
            child[s] = fresh;
            return fresh;
        }

        private void setLine(int s) {
            int at = s;
            for (int i = size[s] - 1; i >= 0 && i < PROPERTIES_MOST && at > 0; i--) {
                line[i] = at;
                at = parent[at];
            }
        }

        /** How many SHAPES would have to come for the HEIR of one whose PROPERTY gets SORT 3. */
        int lackingForHeir(int s, int slot) {
            setLine(s);
            int at = 0;
            for (int i = 0; i < size[s]; i++) {
                at = childOf(at, word[line[i]], i == slot ? SORT_ANY : sort[line[i]]);
                if (at == NONE) {
                    return size[s] - i;
                }
            }
            return 0;
        }

        void outdate(int s, int slot) {
            setLine(s);
            int at = 0;
            for (int i = 0; i < size[s] && at != NONE; i++) {
                int ofSort = i == slot ? SORT_ANY : sort[line[i]];
                int found = childOf(at, word[line[i]], ofSort);
                at = found == NONE ? makeChild(at, word[line[i]], ofSort) : found;
            }
            heir[s] = at;
        }

        int tell(int s, int what) {
            switch (what) {
                case 0: return parent[s];
                case 1: return s == 0 ? NONE : sort[s];
                case 2: return heir[s];
                case 3: return size[s];
                default:
                    int letter = what - 4;
                    if (s == 0 || letter < 0 || letter >= cells.cell[word[s]]) {
                        return NONE;
                    }
                    return cells.cell[word[s] + 1 + letter];
            }
        }
    }

    /** A ROOT: its NODES, and the ops that work them out. */
    private static final class Root {
        private static final int ENTRY_CELLS = 3 * ENTRIES_MOST;

        int name = 0;
        int nodes = 0;
        int locals = 0;
        int params = 0;
        int heat = 0;
        int validCode = NONE;
        int codes = 0;
        int changes = 0;
        final int[] sort = new int[LOCALS_MOST];
        final int[] kind;
        final int[] place;
        final int[] state;
        final int[] changed;
        // Of two sides the right one's number; 1 of a NUMBER that is BIG, of a GET or PUT with [ ].
        final int[] extra;
        // A VALUE's bits; a LOCAL, a NAME's number, the STRING of a GET or PUT, how many ARGS.
        final long[] value;
        final int[] entries;
        // Of each ENTRY the ROOT or SHAPE ahead, which PROPERTY of the SHAPE, the SHAPE behind.
        final int[] entry;
        final int[] opWhat;
        final int[] opNode;
        final int[] opArg;

        Root(int nodesMost, int opsMost) {
            kind = new int[nodesMost];
            place = new int[nodesMost];
            state = new int[nodesMost];
            changed = new int[nodesMost];
            extra = new int[nodesMost];
            value = new long[nodesMost];
            entries = new int[nodesMost];
            entry = new int[nodesMost * ENTRY_CELLS];
            opWhat = new int[opsMost];
            opNode = new int[opsMost];
            opArg = new int[opsMost];
        }

        void clear(int newNodes, int newLocals, int newParams) {
            nodes = newNodes;
            locals = newLocals;
            params = newParams;
            heat = 0;
            validCode = NONE;
            codes = 0;
            changes = 0;
            Arrays.fill(sort, 0);
            Arrays.fill(state, 0);
            Arrays.fill(changed, 0);
            Arrays.fill(entries, 0);
        }

        int entryAhead(int k, int i) {
            return entry[k * ENTRY_CELLS + i * 3];
        }

        int entryBehind(int k, int i) {
            return entry[k * ENTRY_CELLS + i * 3 + 2];
        }

        boolean entryIs(int k, int i, int ahead, int slot, int behind) {
            int at = k * ENTRY_CELLS + i * 3;
            return entry[at] == ahead && entry[at + 1] == slot && entry[at + 2] == behind;
        }

        void setEntry(int k, int i, int ahead, int slot, int behind) {
            int at = k * ENTRY_CELLS + i * 3;
            entry[at] = ahead;
            entry[at + 1] = slot;
            entry[at + 2] = behind;
        }

        void copyEntry(int k, int i, int to) {
            int at = k * ENTRY_CELLS + i * 3;
            setEntry(k, to, entry[at], entry[at + 1], entry[at + 2]);
        }

        boolean hasShape(int s) {
            for (int k = 0; k < nodes; k++) {
                for (int i = 0; i < entries[k] && kind[k] != CALL; i++) {
                    int at = k * ENTRY_CELLS + i * 3;
                    if (entry[at] == s || entry[at + 2] == s) {
                        return true;
                    }
                }
            }
            return false;
        }

        int guards() {
            int sum = 0;
            for (int k = 0; k < nodes; k++) {
                sum += guardsOf(k);
            }
            return sum;
        }

        private int guardsOf(int k) {
            switch (kind[k]) {
                case PLUS: case MINUS: case TIMES: case OVER: case LESS: case LESS_OR_SAME: case MORE:
                case MORE_OR_SAME: case SAME: case OTHER:
                    return state[k] != 1 ? 1 : (isSure(k + 1) ? 0 : 1) + (isSure(extra[k]) ? 0 : 1);
                case AND: case OR: case IF: case WHILE:
                    return state[k] == 3 ? 0 : 1;
                case PARAM: return state[k] == 4 ? 0 : 1;
                case WRITE: return state[k] == 4 || (state[k] == 1 && isSure(k + 1)) ? 0 : 1;
                case READ: return state[k] == 4 ? 0 : 1;
                case GET: case PUT: case CALL: return Math.max(1, entries[k]);
                default: return 0;
            }
        }

        private boolean isSure(int k) {
            if (k < 0 || k >= nodes) {
                return false;
            }
            if (kind[k] == NUMBER) {
                return extra[k] == 0;
            }
            return (kind[k] == READ || (kind[k] >= PLUS && kind[k] <= OVER)) && state[k] == 1;
        }

        int tell(int k, int what) {
            boolean hasLocal = kind[k] == PARAM || kind[k] == READ || kind[k] == WRITE;
            boolean hasEntries = kind[k] == GET || kind[k] == PUT || kind[k] == CALL;
            switch (what) {
                case 0: return kind[k];
                case 1: return place[k];
                case 2: return state[k];
                case 3: return changed[k];
                case 4: return hasEntries ? entries[k] : NONE;
                case 5: case 6: case 7: return what - 5 < entries[k] ? entryAhead(k, what - 5) : NONE;
                case 8: case 9: case 10:
                    return kind[k] == PUT && what - 8 < entries[k] ? entryBehind(k, what - 8) : NONE;
                case 11: return hasLocal ? (int) value[k] : NONE;
                default: return NONE;
            }
        }
    }

    /** A CODE: a ROOT and what is INLINED in it. */
    private static final class Code {
        private static final int DEPTH_MOST = 2;

        int root = 0;
        boolean valid = false;
        private int units = 0;
        private int nodes = 0;
        private int guards = 0;
        int entered = 0;
        int exits = 0;
        int falls = 0;
        private final int[] unitRoot = new int[UNITS_MOST];
        private final int[] unitIn = new int[UNITS_MOST];
        private final int[] unitCall = new int[UNITS_MOST];
        private final int[] unitDepth = new int[UNITS_MOST];

        void make(int ofRoot, House house) {
            root = ofRoot;
            valid = true;
            units = 0;
            nodes = 0;
            guards = 0;
            entered = 0;
            exits = 0;
            falls = 0;
            addUnit(ofRoot, NONE, NONE, house);
            for (int u = 0; u < units; u++) {
                Root one = house.roots[unitRoot[u]];
                for (int k = 0; k < one.nodes; k++) {
                    if (one.kind[k] == CALL && one.entries[k] == 1 && mayInline(one.entryAhead(k, 0), u, house)) {
                        addUnit(one.entryAhead(k, 0), u, k, house);
                    }
                }
            }
        }

        private void addUnit(int r, int in, int call, House house) {
            unitRoot[units] = r;
            unitIn[units] = in;
            unitCall[units] = call;
            unitDepth[units] = in == NONE ? 0 : unitDepth[in] + 1;
            units++;
            nodes += house.roots[r].nodes;
            guards += house.roots[r].guards();
        }

        private boolean mayInline(int r, int in, House house) {
            if (units == UNITS_MOST || r < FIRST_ROOT || !house.isNewest(r) || unitDepth[in] == DEPTH_MOST
                    || nodes + house.roots[r].nodes > UNIT_NODES_MOST) {
                return false;
            }
            int u = in;
            for (int i = 0; i <= DEPTH_MOST && u != NONE; i++) {
                if (unitRoot[u] == r) {
                    return false;
                }
                u = unitIn[u];
            }
            return true;
        }

        int unitFor(int unit, int call) {
            for (int u = 1; u < units; u++) {
                if (unitIn[u] == unit && unitCall[u] == call) {
                    return u;
                }
            }
            return NONE;
        }

        boolean hasRoot(int r) {
            for (int u = 0; u < units; u++) {
                if (unitRoot[u] == r) {
                    return true;
                }
            }
            return false;
        }

        boolean restsOnShape(int s, House house) {
            for (int u = 0; u < units; u++) {
                if (house.roots[unitRoot[u]].hasShape(s)) {
                    return true;
                }
            }
            return false;
        }

        boolean restsOnName(int name, House house) {
            for (int u = 0; u < units; u++) {
                if (house.callsName(unitRoot[u], name)) {
                    return true;
                }
            }
            return false;
        }

        int tell(int what) {
            switch (what) {
                case 0: return root;
                case 1: return valid ? 1 : 0;
                case 2: return units;
                case 3: return nodes;
                case 4: return guards;
                case 5: return entered;
                case 6: return exits;
                case 7: return falls;
                default: return what < 10 || what - 10 >= units ? NONE : unitRoot[what - 10];
            }
        }
    }

    /** All ROOTS, NAMES and CODES, the QUEUE, and what is counted since load(). */
    private static final class House {
        private static final int MAIN_NAME = 4;
        // Behind each NAME of a TEXT stands a byte that is none of it.
        private static final int NAMES_MOST = (TAPE_MOST + (ROOTS_MOST - FIRST_ROOT) * STRING_MOST) / 2 + 100;

        private final Cells cells;
        private final int threshold;
        private final int ownTexts;
        final Root[] roots = new Root[ROOTS_MOST];
        int count = 0;
        final int[] nameAt = new int[NAMES_MOST];
        private final int[] newest = new int[NAMES_MOST];
        private int names = 0;
        final Code[] codes = new Code[CODES_MOST];
        int codeCount = 0;
        private final int[] queue = new int[ROOTS_MOST];
        int queued = 0;
        int changes = 0;
        int entered = 0;
        int exits = 0;
        int falls = 0;
        int calls = 0;
        int inlined = 0;

        House(Cells cells, int threshold) {
            this.cells = cells;
            this.threshold = threshold;
            for (int i = 0; i < CODES_MOST; i++) {
                codes[i] = new Code();
            }
            for (int i = 0; i < ROOTS_MOST; i++) {
                roots[i] = i < FIRST_ROOT ? new Root(0, 0) : new Root(NODES_MOST, OPS_MOST);
                roots[i].name = i;
            }
            nameAt[0] = cells.keepOwn("print");
            nameAt[1] = cells.keepOwn("new");
            nameAt[2] = cells.keepOwn("kind");
            nameAt[3] = cells.keepOwn("define");
            nameAt[MAIN_NAME] = cells.keepOwn("main");
            ownTexts = cells.textsMark();
            forget();
        }

        void forget() {
            cells.forgetTexts(ownTexts);
            names = MAIN_NAME + 1;
            for (int i = 0; i < FIRST_ROOT; i++) {
                newest[i] = i;
            }
            newest[MAIN_NAME] = NONE;
            count = FIRST_ROOT;
            codeCount = 0;
            queued = 0;
            changes = 0;
            entered = 0;
            exits = 0;
            falls = 0;
            calls = 0;
            inlined = 0;
        }

        /** The number of a NAME: a FUNCTION is one for each NAME. */
        int nameOf(int[] source, int from, int letters) {
            if (from < 0 || from + letters > source.length) {
                return 0;
            }
            for (int name = 0; name < names; name++) {
                int at = nameAt[name];
                boolean same = cells.cell[at] == letters;
                for (int i = 0; same && i < letters; i++) {
                    same = cells.cell[at + 1 + i] == source[from + i];
                }
                if (same) {
                    return name;
                }
            }
            if (names == NAMES_MOST) {
                return 0;
            }
            nameAt[names] = cells.keepText(source, from, letters);
            newest[names] = NONE;
            names++;
            return names - 1;
        }

        int newestOf(int name) {
            return name < 0 || name >= names ? NONE : newest[name];
        }

        int newestMain() {
            return newest[MAIN_NAME];
        }

        boolean isNewest(int r) {
            return newest[roots[r].name] == r;
        }

        void define(Draft draft, int head, int name) {
            if (count == ROOTS_MOST) {
                return;
            }
            endCodesOnName(name);
            draft.writeTo(roots[count], this, head);
            roots[count].name = name;
            newest[name] = count;
            count++;
        }

        /** Whether a ROOT is of that FUNCTION, or has a CALL with an ENTRY that is. */
        boolean callsName(int r, int name) {
            Root one = roots[r];
            if (one.name == name) {
                return true;
            }
            for (int k = 0; k < one.nodes; k++) {
                for (int i = 0; i < one.entries[k] && one.kind[k] == CALL; i++) {
                    if (roots[one.entryAhead(k, i)].name == name) {
                        return true;
                    }
                }
            }
            return false;
        }

        private void endCodesOnName(int name) {
            for (int c = 0; c < codeCount; c++) {
                if (codes[c].valid && codes[c].restsOnName(name, this)) {
                    endCode(c);
                }
            }
        }

        void endCodesOnRoot(int r) {
            for (int c = 0; c < codeCount; c++) {
                if (codes[c].valid && codes[c].hasRoot(r)) {
                    endCode(c);
                }
            }
        }

        void endCodesOnShape(int s) {
            for (int c = 0; c < codeCount; c++) {
                if (codes[c].valid && codes[c].restsOnShape(s, this)) {
                    endCode(c);
                }
            }
        }

        private void endCode(int c) {
            codes[c].valid = false;
            roots[codes[c].root].validCode = NONE;
            roots[codes[c].root].heat = 0;
        }

        void warm(int r) {
            Root one = roots[r];
            if (one.heat == COUNT_MOST) {
                return;
            }
            one.heat++;
            if (one.heat >= threshold && one.validCode == NONE && one.codes < CODES_OF_ROOT_MOST && isNewest(r)
                    && placeInQueue(r) == NONE && queued < ROOTS_MOST) {
                queue[queued] = r;
                queued++;
            }
        }

        private int placeInQueue(int r) {
            for (int i = 0; i < queued; i++) {
                if (queue[i] == r) {
                    return i;
                }
            }
            return NONE;
        }

        int makeNextCode() {
            if (codeCount == CODES_MOST) {
                return NONE;
            }
            for (int i = 0; i < ROOTS_MOST && queued > 0; i++) {
                int r = queue[0];
                queued--;
                System.arraycopy(queue, 1, queue, 0, queued);
                if (isNewest(r)) {
                    codes[codeCount].make(r, this);
                    roots[r].validCode = codeCount;
                    roots[r].codes++;
                    codeCount++;
                    return r;
                }
            }
            return NONE;
        }

        void countEntered(int c) {
            codes[c].entered = Math.min(codes[c].entered + 1, COUNT_MOST);
            entered = Math.min(entered + 1, COUNT_MOST);
        }

        void countExit(int c) {
            codes[c].exits++;
            exits++;
        }

        void countFall(int c) {
            codes[c].falls++;
            falls++;
        }

        void countChange(int r, int k) {
            roots[r].changed[k]++;
            roots[r].changes++;
            changes++;
        }

        void countCall() {
            calls = Math.min(calls + 1, COUNT_MOST);
        }

        void countInlined() {
            inlined = Math.min(inlined + 1, COUNT_MOST);
        }

        int tellRoot(int r, int what) {
            Root one = roots[r];
            switch (what) {
                case 0: return one.nodes;
                case 1: return one.locals;
                case 2: return one.heat;
                case 3: return one.validCode;
                case 4: return one.codes;
                case 5: return placeInQueue(r);
                case 6: return isNewest(r) ? 1 : 0;
                case 7: return one.changes;
                default:
                    int local = what - 10;
                    if (local >= 0 && local < one.locals) {
                        return one.sort[local];
                    }
                    int at = nameAt[one.name];
                    return what < 30 || what - 30 >= cells.cell[at] ? NONE : cells.cell[at + 1 + what - 30];
            }
        }
    }

    /** The open ACTIVATIONS, the newest last, and the VALUES that wait for their NODES. */
    private static final class Frames {
        private static final int VALUES_MOST = CALLS_MOST * NODES_MOST;

        int depth = 0;
        int most = 0;
        final int[] root = new int[CALLS_MOST];
        final int[] at = new int[CALLS_MOST];
        final int[] code = new int[CALLS_MOST];
        final int[] unit = new int[CALLS_MOST];
        private final boolean[] inlined = new boolean[CALLS_MOST];
        final int[] tag = new int[CALLS_MOST * LOCALS_MOST];
        final int[] localKind = new int[CALLS_MOST * LOCALS_MOST];
        final long[] localBits = new long[CALLS_MOST * LOCALS_MOST];
        private int top = 0;
        private final int[] valueKind = new int[VALUES_MOST];
        private final long[] valueBits = new long[VALUES_MOST];

        void clear() {
            depth = 0;
            most = 0;
            top = 0;
        }

        boolean isFull() {
            return depth >= CALLS_MOST;
        }

        void open(int ofRoot) {
            if (isFull()) {
                return;
            }
            root[depth] = ofRoot;
            at[depth] = 0;
            code[depth] = NONE;
            unit[depth] = NONE;
            inlined[depth] = false;
            Arrays.fill(tag, depth * LOCALS_MOST, (depth + 1) * LOCALS_MOST, SORT_ANY);
            Arrays.fill(localKind, depth * LOCALS_MOST, (depth + 1) * LOCALS_MOST, IS_NULL);
            depth++;
            most = Math.max(most, depth);
        }

        void close() {
            if (depth > 0) {
                depth--;
            }
        }

        void enter(int inCode) {
            code[depth - 1] = inCode;
            unit[depth - 1] = 0;
        }

        void inline(int inCode, int inUnit) {
            code[depth - 1] = inCode;
            unit[depth - 1] = inUnit;
            inlined[depth - 1] = true;
        }

        int newestRoot() {
            return root[depth - 1];
        }

        int newestCode() {
            return code[depth - 1];
        }

        int newestUnit() {
            return unit[depth - 1];
        }

        int newestOp() {
            return at[depth - 1];
        }

        int localAt(int local) {
            return (depth - 1) * LOCALS_MOST + local;
        }

        void setLocal(int local, int kind, long bits) {
            localKind[localAt(local)] = kind;
            localBits[localAt(local)] = bits;
        }

        void jump(int op) {
            at[depth - 1] = op;
        }

        /** The FRAME of the newest ACTIVATION is it and those below, down to the first that is not INLINED. */
        void leave() {
            boolean within = true;
            for (int i = depth - 1; i >= 0 && within; i--) {
                within = inlined[i];
                code[i] = NONE;
                unit[i] = NONE;
                inlined[i] = false;
            }
        }

        void push(int kind, long bits) {
            if (top < VALUES_MOST) {
                valueKind[top] = kind;
                valueBits[top] = bits;
                top++;
            }
        }

        void drop(int values) {
            top = Math.max(0, top - values);
        }

        void replace(int values, int kind, long bits) {
            drop(values);
            push(kind, bits);
        }

        /** The VALUE below that many others. */
        int kindBelow(int others) {
            return others >= top ? IS_NULL : valueKind[top - 1 - others];
        }

        long bitsBelow(int others) {
            return others >= top ? 0 : valueBits[top - 1 - others];
        }

        int tell(int which, int what, int locals) {
            switch (what) {
                case 0: return root[which];
                case 1: return code[which];
                case 2: return unit[which];
                case 3: return inlined[which] ? 1 : 0;
                default:
                    int local = what - 10;
                    return local < 0 || local >= locals ? NONE : tag[which * LOCALS_MOST + local];
            }
        }
    }

    /** Makes the RUN go on, op by op. */
    private static final class Machine {
        private final Cells cells;
        private final House house;
        private final Shapes shapes;
        final Frames frames = new Frames();
        private final Big left = new Big();
        private final Big right = new Big();
        private final Big answer = new Big();
        private long longAnswer = 0;
        int standing = NO_RUN;
        int steps = 0;
        int errorNumber = 0;
        int errorRoot = NONE;
        int errorNode = NONE;
        // The NODE of the CALL of define whose TEXT is still to be read, or NONE.
        private int defining = NONE;
        final int[] outLetters = new int[OUT_MOST];
        int outLength = 0;
        final int[] resultLetters = new int[STRING_MOST];
        int resultLength = 0;

        Machine(Cells cells, House house, Shapes shapes) {
            this.cells = cells;
            this.house = house;
            this.shapes = shapes;
        }

        void drop() {
            standing = NO_RUN;
            defining = NONE;
            steps = 0;
            outLength = 0;
            resultLength = 0;
            frames.clear();
            shapes.forgetObjects();
            cells.forgetMade();
        }

        boolean begin(long a, long b) {
            int main = house.newestMain();
            if (main == NONE) {
                return false;
            }
            drop();
            standing = UNDER_WAY;
            // As by a CALL, what is called lies below its ARGS.
            frames.push(IS_FUNCTION, house.roots[main].name);
            frames.push(IS_LONG, a);
            frames.push(IS_LONG, b);
            house.countCall();
            activate(main, 2, NONE);
            return true;
        }

        /** Works on until n STEPS are made and the next one would begin, define wants a TEXT read, or the RUN ends. */
        int go(int n) {
            int made = 0;
            for (int i = 0; i < COUNT_MOST && standing == UNDER_WAY && defining == NONE; i++) {
                Root r = house.roots[frames.newestRoot()];
                int op = frames.newestOp();
                int what = r.opWhat[op];
                if (what == STEP || what == AGAIN) {
                    if (made >= n) {
                        return made;
                    }
                    made += beginStep(what, r.opNode[op]) ? 1 : 0;
                } else {
                    frames.jump(op + 1);
                    work(r, what, r.opNode[op], r.opArg[op]);
                }
            }
            return made;
        }

        private boolean beginStep(int what, int k) {
            if (steps == STEPS_MOST) {
                fail(10, k);
                return false;
            }
            steps++;
            frames.jump(frames.newestOp() + 1);
            fall();
            if (what == AGAIN && frames.newestCode() == NONE) {
                warmAndEnter();
            }
            return true;
        }

        private void fail(int number, int k) {
            standing = BY_ERROR;
            errorNumber = number;
            errorRoot = frames.newestRoot();
            errorNode = k;
        }

        private void fall() {
            int c = frames.newestCode();
            if (c != NONE && !house.codes[c].valid) {
                frames.leave();
                house.countFall(c);
            }
        }

        private void warmAndEnter() {
            int r = frames.newestRoot();
            house.warm(r);
            int c = house.roots[r].validCode;
            if (c != NONE) {
                frames.enter(c);
                house.countEntered(c);
            }
        }

        /** A NODE of the newest ACTIVATION gets another STATE, or other ENTRIES. */
        private void change(Root r, int k, int state) {
            int c = frames.newestCode();
            if (c != NONE) {
                frames.leave();
                house.countExit(c);
            }
            r.state[k] = state;
            house.countChange(frames.newestRoot(), k);
            house.endCodesOnRoot(frames.newestRoot());
        }

        private void work(Root r, int what, int k, int arg) {
            switch (what) {
                case NUMBER: frames.push(r.extra[k] == 0 ? IS_LONG : IS_BIG, r.value[k]); break;
                case STRING: frames.push(IS_STRING, r.value[k]); break;
                case TRUTH: frames.push(IS_TRUTH, r.value[k]); break;
                case NULL: frames.push(IS_NULL, 0); break;
                case NAME: frames.push(IS_FUNCTION, r.value[k]); break;
                case READ: readLocal(r, k); break;
                case PARAM: setLocal(r, k); break;
                case WRITE: writeLocal(r, k); break;
                case PLUS: case MINUS: case TIMES: case OVER: arithmetic(r, k); break;
                case LESS: case LESS_OR_SAME: case MORE: case MORE_OR_SAME: order(r, k); break;
                case SAME: case OTHER: equality(r, k); break;
                case AND: case OR: needTruth(k); break;
                case NOT: negate(k); break;
                case GET: getProperty(r, k); break;
                case PUT: putProperty(r, k); break;
                case CALL: call(r, k); break;
                case RETURN: comeBack(); break;
                case JUMP: frames.jump(arg); break;
                case LEFT: leftSide(r, k, arg); break;
                case BRANCH: branch(r, k, arg); break;
                case POP: frames.drop(1); break;
                default:
                    frames.push(IS_NULL, 0);
                    comeBack();
                    break;
            }
        }

        private boolean needTruth(int k) {
            if (frames.kindBelow(0) != IS_TRUTH) {
                fail(1, k);
                return false;
            }
            return true;
        }

        private void negate(int k) {
            if (needTruth(k)) {
                frames.replace(1, IS_TRUTH, 1 - frames.bitsBelow(0));
            }
        }

        private void leftSide(Root r, int k, int end) {
            if (!needTruth(k)) {
                return;
            }
            boolean matters = (frames.bitsBelow(0) == 1) == (r.kind[k] == AND);
            gain(r, k, matters ? 1 : 2);
            if (matters) {
                frames.drop(1);
            } else {
                frames.jump(end);
            }
        }

        private void branch(Root r, int k, int otherwise) {
            if (!needTruth(k)) {
                return;
            }
            boolean holds = frames.bitsBelow(0) == 1;
            gain(r, k, holds ? 1 : 2);
            frames.drop(1);
            if (!holds) {
                frames.jump(otherwise);
            }
        }

        private void gain(Root r, int k, int bit) {
            if ((r.state[k] & bit) == 0) {
                change(r, k, r.state[k] | bit);
            }
        }

        private void readLocal(Root r, int k) {
            int at = frames.localAt((int) r.value[k]);
            if (r.state[k] != 4) {
                if (frames.tag[at] == SORT_ANY) {
                    change(r, k, 4);
                } else {
                    gain(r, k, frames.tag[at]);
                }
            }
            if (r.state[k] == 4) {
                frames.tag[at] = SORT_ANY;
            }
            frames.push(frames.localKind[at], frames.localBits[at]);
        }

        private void writeLocal(Root r, int k) {
            frames.setLocal((int) r.value[k], frames.kindBelow(0), frames.bitsBelow(0));
            setLocal(r, k);
        }

        /** The NODE by which the LOCAL got what it has. */
        private void setLocal(Root r, int k) {
            int local = (int) r.value[k];
            int at = frames.localAt(local);
            int kind = frames.localKind[at];
            int sort = kind == IS_LONG ? SORT_LONG : kind == IS_TRUTH ? SORT_TRUTH : SORT_ANY;
            if (r.state[k] == 4 || (r.sort[local] != 0 && r.sort[local] != sort)) {
                sort = SORT_ANY;
            }
            int bit = sort == SORT_ANY ? 4 : sort;
            if (r.state[k] != bit) {
                change(r, k, bit);
                r.sort[local] = sort;
            }
            frames.tag[at] = sort;
        }

        private static boolean isNumber(int kind) {
            return kind == IS_LONG || kind == IS_BIG;
        }

        private boolean areLongs() {
            return frames.kindBelow(0) == IS_LONG && frames.kindBelow(1) == IS_LONG;
        }

        private boolean areNumbers() {
            return isNumber(frames.kindBelow(0)) && isNumber(frames.kindBelow(1));
        }

        private void setBig(Big big, int others) {
            if (frames.kindBelow(others) == IS_BIG) {
                big.setCells(cells.cell, (int) frames.bitsBelow(others));
            } else {
                big.setLong(frames.bitsBelow(others));
            }
        }

        private void arithmetic(Root r, int k) {
            boolean joins = frames.kindBelow(0) == IS_STRING || frames.kindBelow(1) == IS_STRING;
            if (r.kind[k] == PLUS && joins) {
                if (showBoth(k)) {
                    gain(r, k, 4);
                    frames.replace(2, IS_STRING, cells.makeShown());
                }
            } else if (!areNumbers()) {
                fail(1, k);
            } else if ((r.state[k] & 2) == 0 && areLongs()
                    && fitsLong(r.kind[k], frames.bitsBelow(1), frames.bitsBelow(0))) {
                gain(r, k, 1);
                frames.replace(2, IS_LONG, longAnswer);
            } else {
                calculateBig(r, k);
            }
        }

        private boolean fitsLong(int kind, long a, long b) {
            switch (kind) {
                case PLUS:
                    longAnswer = a + b;
                    return ((a ^ longAnswer) & (b ^ longAnswer)) >= 0;
                case MINUS:
                    longAnswer = a - b;
                    return ((a ^ b) & (a ^ longAnswer)) >= 0;
                case TIMES:
                    longAnswer = a * b;
                    return b == 0 || (!(a == LONG_LEAST && b == -1) && longAnswer / b == a);
                default:
                    longAnswer = b == 0 ? 0 : a / b;
                    return b != 0 && !(a == LONG_LEAST && b == -1);
            }
        }

        private void calculateBig(Root r, int k) {
            setBig(left, 1);
            setBig(right, 0);
            int kind = r.kind[k];
            if (kind == OVER && right.isZero()) {
                fail(2, k);
                return;
            }
            boolean fits = true;
            if (kind == OVER) {
                answer.setQuotient(left, right);
            } else if (kind == TIMES) {
                fits = answer.setProduct(left, right);
            } else {
                fits = answer.setSum(left, right, kind == MINUS);
            }
            if (!fits || !cells.mayMake(BIG_CELLS)) {
                fail(fits ? 9 : 8, k);
                return;
            }
            if ((r.state[k] & 2) == 0) {
                change(r, k, (r.state[k] & 4) | 2);
            }
            frames.replace(2, IS_BIG, cells.makeBig(answer));
        }

        /** What + makes of a STRING and another VALUE; false by an ERROR. */
        private boolean showBoth(int k) {
            if (frames.kindBelow(0) >= IS_FUNCTION || frames.kindBelow(1) >= IS_FUNCTION) {
                fail(1, k);
                return false;
            }
            cells.shownLength = 0;
            show(1);
            show(0);
            boolean fits = cells.shownLength <= STRING_MOST;
            if (!fits || !cells.mayMake(cells.shownLength + 1)) {
                fail(fits ? 9 : 8, k);
                return false;
            }
            return true;
        }

        /** The VALUE below that many others comes behind what is SHOWN. */
        private void show(int others) {
            long bits = frames.bitsBelow(others);
            switch (frames.kindBelow(others)) {
                case IS_NULL: cells.showOwn("null"); break;
                case IS_TRUTH: cells.showOwn(bits == 1 ? "true" : "false"); break;
                case IS_STRING: cells.showString((int) bits); break;
                case IS_FUNCTION: cells.showString(house.nameAt[(int) bits]); break;
                case IS_OBJECT: cells.showOwn("{}"); break;
                case IS_LONG:
                    left.setLong(bits);
                    cells.shownLength = left.showIn(cells.shown, cells.shownLength);
                    break;
                default:
                    left.setCells(cells.cell, (int) bits);
                    cells.shownLength = left.showIn(cells.shown, cells.shownLength);
                    break;
            }
        }

        private void order(Root r, int k) {
            if (!areNumbers()) {
                fail(1, k);
                return;
            }
            if (r.state[k] != 2 && !areLongs()) {
                change(r, k, 2);
            } else if (r.state[k] == 0) {
                change(r, k, 1);
            }
            int compared = compareNumbers();
            boolean holds;
            switch (r.kind[k]) {
                case LESS: holds = compared < 0; break;
                case LESS_OR_SAME: holds = compared <= 0; break;
                case MORE: holds = compared > 0; break;
                default: holds = compared >= 0; break;
            }
            frames.replace(2, IS_TRUTH, holds ? 1 : 0);
        }

        private int compareNumbers() {
            if (areLongs()) {
                return Long.compare(frames.bitsBelow(1), frames.bitsBelow(0));
            }
            setBig(left, 1);
            setBig(right, 0);
            return left.compareWith(right);
        }

        private void equality(Root r, int k) {
            int bit = equalityBit(frames.kindBelow(1), frames.kindBelow(0));
            if ((r.state[k] & (bit | 8)) == 0) {
                change(r, k, bit == 8 ? 8 : r.state[k] | bit);
            }
            boolean holds = areSame() == (r.kind[k] == SAME);
            frames.replace(2, IS_TRUTH, holds ? 1 : 0);
        }

        private static int equalityBit(int kindA, int kindB) {
            if (kindA != kindB) {
                return 8;
            }
            switch (kindA) {
                case IS_LONG: return 1;
                case IS_TRUTH: return 2;
                case IS_STRING: return 4;
                default: return 8;
            }
        }

        private boolean areSame() {
            if (areNumbers()) {
                return compareNumbers() == 0;
            }
            int kind = frames.kindBelow(0);
            if (kind != frames.kindBelow(1)) {
                return false;
            }
            if (kind == IS_STRING) {
                return cells.same((int) frames.bitsBelow(0), (int) frames.bitsBelow(1));
            }
            return kind == IS_NULL || frames.bitsBelow(0) == frames.bitsBelow(1);
        }

        /** STALE ENTRIES go, the one that fits comes; all of it is one CHANGE. */
        private void note(Root r, int k, int ahead, int slot, int behind) {
            if (r.state[k] == 1) {
                return;
            }
            int kept = 0;
            boolean fits = false;
            int before = r.entries[k];
            for (int i = 0; i < before; i++) {
                if (!isStale(r, k, i)) {
                    fits = fits || r.entryIs(k, i, ahead, slot, behind);
                    r.copyEntry(k, i, kept);
                    kept++;
                }
            }
            if (fits && kept == before) {
                return;
            }
            boolean opens = !fits && kept == (r.kind[k] == CALL ? CALL_ENTRIES_MOST : ENTRIES_MOST);
            if (!fits && !opens) {
                r.setEntry(k, kept, ahead, slot, behind);
                kept++;
            }
            r.entries[k] = opens ? 0 : kept;
            change(r, k, opens ? 1 : 0);
        }

        private boolean isStale(Root r, int k, int i) {
            if (r.kind[k] == CALL) {
                return !house.isNewest(r.entryAhead(k, i));
            }
            return shapes.isObsolete(r.entryAhead(k, i)) || shapes.isObsolete(r.entryBehind(k, i));
        }

        private void getProperty(Root r, int k) {
            int others = r.extra[k];
            if (!isProperty(k, others, others)) {
                return;
            }
            int object = (int) frames.bitsBelow(others);
            int s = shapes.settled(shapes.ofObject[object]);
            int slot = shapes.slotOf(s, keyOf(r, k, 0));
            if (slot == NONE) {
                fail(5, k);
                return;
            }
            shapes.moveObject(object);
            note(r, k, s, slot, s);
            frames.replace(others + 1, shapes.kindAt(object, slot), shapes.bitsAt(object, slot));
        }

        /** The OBJECT of a GET or PUT lies below that many others, the STRING of one with [ ] right above it. */
        private boolean isProperty(int k, int others, int keyed) {
            if (frames.kindBelow(others) != IS_OBJECT) {
                fail(4, k);
                return false;
            }
            if (keyed == 1 && frames.kindBelow(others - 1) != IS_STRING) {
                fail(1, k);
                return false;
            }
            return true;
        }

        private int keyOf(Root r, int k, int others) {
            return (int) (r.extra[k] == 1 ? frames.bitsBelow(others) : r.value[k]);
        }

        private void putProperty(Root r, int k) {
            int others = r.extra[k] + 1;
            if (!isProperty(k, others, r.extra[k])) {
                return;
            }
            int object = (int) frames.bitsBelow(others);
            int s = shapes.settled(shapes.ofObject[object]);
            int found = shapes.slotOf(s, keyOf(r, k, 1));
            int behind = found == NONE ? addProperty(k, s, keyOf(r, k, 1)) : keepProperty(k, s, found);
            if (behind == NONE) {
                return;
            }
            shapes.moveObject(object);
            int slot = found;
            if (found == NONE) {
                slot = shapes.size[s];
                shapes.ofObject[object] = behind;
            }
            if (!shapes.isObsolete(s)) {
                note(r, k, s, slot, behind);
            }
            shapes.setProperty(object, slot, frames.kindBelow(0), frames.bitsBelow(0));
            frames.replace(others + 1, frames.kindBelow(0), frames.bitsBelow(0));
        }

        /** The SHAPE behind a PUT of a PROPERTY that was not there; NONE by an ERROR. */
        private int addProperty(int k, int s, int string) {
            int sort = frames.kindBelow(0) == IS_LONG ? SORT_LONG : SORT_ANY;
            int child = NONE;
            if (shapes.size[s] < PROPERTIES_MOST) {
                int found = shapes.childOf(s, string, sort);
                child = found == NONE ? shapes.makeChild(s, string, sort) : found;
            }
            if (child == NONE) {
                fail(9, k);
                return NONE;
            }
            return shapes.settled(child);
        }

        /** The SHAPE of a PUT of a PROPERTY that is there, OBSOLETE if its SORT was too narrow; NONE by an ERROR. */
        private int keepProperty(int k, int s, int slot) {
            if (frames.kindBelow(0) == IS_LONG || shapes.sortAt(s, slot) == SORT_ANY) {
                return s;
            }
            if (shapes.count + shapes.lackingForHeir(s, slot) > SHAPES_MOST) {
                fail(9, k);
                return NONE;
            }
            shapes.outdate(s, slot);
            house.endCodesOnShape(s);
            return s;
        }

        private void call(Root r, int k) {
            int args = (int) r.value[k];
            if (frames.kindBelow(args) != IS_FUNCTION) {
                fail(6, k);
                return;
            }
            int called = house.newestOf((int) frames.bitsBelow(args));
            if (called == NONE || frames.isFull()) {
                fail(called == NONE ? 3 : 7, k);
                return;
            }
            note(r, k, called, 0, 0);
            house.countCall();
            if (called < FIRST_ROOT) {
                callOwn(called, k, args);
                return;
            }
            int c = frames.newestCode();
            activate(called, args, c == NONE ? NONE : house.codes[c].unitFor(frames.newestUnit(), k));
        }

        /** An ACTIVATION begins, INLINED as that UNIT of its caller's CODE, or not; its PARAMS are its first ops. */
        private void activate(int called, int args, int unit) {
            int c = unit == NONE ? NONE : frames.newestCode();
            int params = house.roots[called].params;
            frames.open(called);
            for (int i = 0; i < params && i < args; i++) {
                frames.setLocal(i, frames.kindBelow(args - 1 - i), frames.bitsBelow(args - 1 - i));
            }
            frames.drop(args + 1);
            if (unit == NONE) {
                warmAndEnter();
            } else {
                frames.inline(c, unit);
                house.countInlined();
            }
        }

        /** What was called gives the VALUE on top. */
        private void comeBack() {
            frames.close();
            if (frames.depth > 0) {
                fall();
                return;
            }
            standing = CAME_TO_END;
            cells.shownLength = 0;
            show(0);
            resultLength = Math.min(cells.shownLength, STRING_MOST);
            System.arraycopy(cells.shown, 0, resultLetters, 0, resultLength);
        }

        /** A call of a FUNCTION that is there from the beginning. */
        private void callOwn(int called, int k, int args) {
            int kind = args == 0 ? IS_NULL : frames.kindBelow(args - 1);
            switch (called) {
                case 0:
                    print(args);
                    answerCall(args, IS_NULL, 0);
                    break;
                case 1:
                    int object = shapes.makeObject();
                    if (object == NONE) {
                        fail(9, k);
                    } else {
                        answerCall(args, IS_OBJECT, object);
                    }
                    break;
                case 2:
                    answerCall(args, IS_STRING, cells.kindString[kind]);
                    break;
                default:
                    if (kind == IS_STRING) {
                        defining = k;
                    } else {
                        fail(11, k);
                    }
                    break;
            }
        }

        private void answerCall(int args, int kind, long bits) {
            frames.replace(args + 1, kind, bits);
            fall();
        }

        private void print(int args) {
            cells.shownLength = 0;
            if (args == 0) {
                cells.showOwn("null");
            } else {
                show(args - 1);
            }
            for (int i = 0; i < cells.shownLength; i++) {
                putOut(cells.shown[i]);
            }
            putOut(10);
        }

        private void putOut(int letter) {
            if (outLength < OUT_MOST) {
                outLetters[outLength] = letter;
            }
            outLength++;
        }

        boolean isDefining() {
            return standing == UNDER_WAY && defining != NONE;
        }

        /** Where the STRING lies that define reads as a TEXT. */
        int definingFrom() {
            return (int) frames.bitsBelow(definingArgs() - 1);
        }

        private int definingArgs() {
            return (int) house.roots[frames.newestRoot()].value[defining];
        }

        boolean mayDefine(int functions, int faultNumber) {
            if (faultNumber != 0) {
                fail(11, defining);
            } else if (house.count + functions > ROOTS_MOST) {
                fail(9, defining);
            }
            return standing == UNDER_WAY;
        }

        void answerDefine() {
            int args = definingArgs();
            defining = NONE;
            answerCall(args, IS_NULL, 0);
        }
    }
}
