import java.util.ArrayList;
import java.util.Arrays;

/**
 * A kernel of proofs for a pure first-order Lisp: a proof is told as a text, rule by rule; its clause
 * is what it proves.
 */
public final class ClauseKernel {
    public static final int NONE = -1;

    private static final int WAITING = 20;
    private static final int MOST_TEXT = 3000;
    private static final int MOST_OUT = 2000;
    private static final int MOST_WORDS = 1000;
    private static final int MOST_OPEN = 40;
    private static final int MOST_LETTERS = 11;
    private static final int MOST_SIZE = 120;
    private static final int MOST_LITERALS = 30;
    private static final int MOST_SIZES = 400;
    private static final int MOST_FUEL = 1000;
    private static final int MOST_DEEP = 40;
    private static final int MOST_PARAMETERS = 6;
    private static final int MOST_FUNCTIONS = 40;
    private static final int MOST_THEOREMS = 60;
    private static final long MOST_NATURAL = (1L << 62) - 1;

    private static final int DONE = 0;
    private static final int NOT_READ = 1;
    private static final int NOT_AS_TOLD = 2;
    private static final int NAME = 3;
    private static final int WORK = 4;
    private static final int WRONG = 7;
    private static final int NO_ROOM = 8;

    private static final int OUT_OF_FUEL = 1;
    private static final int TOO_DEEP = 2;
    private static final int TOO_BIG = 4;

    private static final String LETTERS = "abcdefghijklmnopqrstuvwxyz0123456789+-*/<>=?!_";

    // These symbols are the first objects of every kernel, so each is known by its place here.
    private static final String FUNCTION_NAMES =
            "nil t quote if equal cons implies + - < consp car cdr natp symbolp height not ";
    private static final String COMMAND_NAMES = "defun check clause undo theorem ";
    private static final String RULE_NAMES =
            "taut same value first second pair yes no def thm weak cut inst swap put induct ";

    private static final int NIL = 0;
    private static final int T = 1;
    private static final int QUOTE = 2;
    private static final int IF = 3;
    private static final int EQUAL = 4;
    private static final int CONS = 5;
    private static final int IMPLIES = 6;
    private static final int PLUS = 7;
    private static final int MINUS = 8;
    private static final int LESS = 9;
    private static final int CONSP = 10;
    private static final int CAR = 11;
    private static final int CDR = 12;
    private static final int NATP = 13;
    private static final int SYMBOLP = 14;
    private static final int HEIGHT = 15;
    private static final int NOT = 16;
    private static final int DEFUN = 17;
    private static final int CHECK = 18;
    private static final int CLAUSE = 19;
    private static final int UNDO = 20;
    private static final int THEOREM = 21;
    private static final int TAUT = 22;
    private static final int SAME = 23;
    private static final int VALUE = 24;
    private static final int FIRST = 25;
    private static final int SECOND = 26;
    private static final int PAIR = 27;
    private static final int YES = 28;
    private static final int NO = 29;
    private static final int DEF = 30;
    private static final int THM = 31;
    private static final int WEAK = 32;
    private static final int CUT = 33;
    private static final int INST = 34;
    private static final int SWAP = 35;
    private static final int PUT = 36;
    private static final int INDUCT = 37;

    // How many terms each BASE function takes, from IF to NOT.
    private static final int[] TAKES = {3, 2, 2, 2, 2, 2, 2, 1, 1, 1, 1, 1, 1, 1};
    private static final int FIRST_DEFINED = NOT + 1;

    private final Row text = new Row(256);
    private final int[] waiting = new int[WAITING / 4];
    private final Cells cells;
    private final Reader reader;
    private final Teller teller;
    private final Book book;
    private final Terms terms;
    private final Prover prover;
    private int fuelNow = MOST_FUEL;
    private int workFault;
    private int stepsMade;
    private int literals;
    private int keptCells;
    private int told;

    public ClauseKernel() {
        cells = new Cells();
        reader = new Reader(cells);
        teller = new Teller(cells);
        book = new Book();
        terms = new Terms(cells, book);
        prover = new Prover(cells, book, terms);
        keptCells = cells.length();
    }

    public void feed(int a, int b, int c, int d, int e) {
        waiting[0] = a;
        waiting[1] = b;
        waiting[2] = c;
        waiting[3] = d;
        waiting[4] = e;
    }

    public int end(int n) {
        if (n < 0 || n > WAITING || text.length() + n > MOST_TEXT) {
            return NONE;
        }
        for (int k = 0; k < n; k++) {
            text.add(waiting[k >> 2] >>> (24 - 8 * (k & 3)) & 255);
        }
        feed(0, 0, 0, 0, 0);
        return text.length();
    }

    public int fuel(int n) {
        if (n < 1 || n > MOST_FUEL) {
            return NONE;
        }
        int before = fuelNow;
        fuelNow = n;
        return before;
    }

    public int run() {
        teller.clear();
        told = NONE;
        workFault = 0;
        stepsMade = 0;
        int command = reader.read(text);
        text.cut(0);
        int answer = NOT_AS_TOLD;
        switch (kindOf(command)) {
            case NONE:
                answer = NOT_READ;
                break;
            case DEFUN:
                answer = define(command);
                break;
            case CHECK:
                answer = check(command);
                break;
            case CLAUSE:
                answer = findClause(command);
                break;
            case UNDO:
                answer = undo();
                break;
            default:
                break;
        }
        if (told != NONE) {
            teller.tellObject(told);
        }
        cells.release(keptCells);
        return answer;
    }

    public int fault(int what) {
        switch (what) {
            case 0:
                return reader.fault;
            case 1:
                return reader.place;
            case 2:
                return workFault;
            default:
                return NONE;
        }
    }

    public int steps() {
        return stepsMade;
    }

    public int count(int what) {
        switch (what) {
            case 0:
                return book.functions();
            case 1:
                return book.theorems();
            case 2:
                return literals;
            default:
                return NONE;
        }
    }

    public int size() {
        return teller.length();
    }

    public int letter(int k) {
        return k >= 0 && k < teller.length() ? teller.at(k) : NONE;
    }

    public int tell(int k) {
        Thing thing = book.thing(k);
        if (thing == null) {
            return NONE;
        }
        int list = cells.pair(terms.object(thing.term), NIL);
        if (thing.isFunction()) {
            list = cells.pair(terms.list(thing.parameters), list);
        }
        list = cells.pair(thing.name, list);
        list = cells.pair(thing.isFunction() ? DEFUN : THEOREM, list);
        teller.clear();
        teller.tellObject(list);
        cells.release(keptCells);
        return teller.length();
    }

    /** The name of a command that has as many parts as it asks for; NIL of another object. */
    private int kindOf(int command) {
        if (command == NONE) {
            return NONE;
        }
        int name = cells.first(command);
        int length = cells.listLength(command);
        switch (name) {
            case DEFUN:
            case CHECK:
                return length == 4 ? name : NIL;
            case CLAUSE:
                return length == 2 ? name : NIL;
            case UNDO:
                return length == 1 ? name : NIL;
            default:
                return NIL;
        }
    }

    private int define(int command) {
        int name = cells.part(command, 1);
        int[] parameters = terms.variables(cells.part(command, 2));
        if (!mayName(name) || parameters == null) {
            return NOT_AS_TOLD;
        }
        int call = Term.call(FIRST_DEFINED + book.functions(), parameters.length);
        Term body = terms.readBody(cells.part(command, 3), name, call);
        if (body == null || !body.hasNoVariablesBut(parameters) || !Paths.areLawful(body, call)) {
            return NOT_AS_TOLD;
        }
        if (book.function(name) != null) {
            return NAME;
        }
        if (book.functions() >= MOST_FUNCTIONS) {
            return NO_ROOM;
        }
        take(new Thing(name, call, parameters, body, keptCells));
        return DONE;
    }

    private int check(int command) {
        int name = cells.part(command, 1);
        Term goal = terms.read(cells.part(command, 2));
        if (!mayName(name) || goal == null) {
            return NOT_AS_TOLD;
        }
        if (book.theorem(name) != null) {
            return NAME;
        }
        if (book.theorems() >= MOST_THEOREMS) {
            return NO_ROOM;
        }
        Clause proved = prover.begin(fuelNow).prove(cells.part(command, 3), 0);
        if (proved == null) {
            return answerOfFailure();
        }
        stepsMade = prover.steps;
        Clause due = new Clause();
        due.add(goal);
        if (!proved.isWithin(due)) {
            told = terms.list(proved);
            return WRONG;
        }
        take(new Thing(name, NONE, new int[0], goal, keptCells));
        return DONE;
    }

    private int findClause(int command) {
        Clause proved = prover.begin(fuelNow).prove(cells.part(command, 1), 0);
        if (proved == null) {
            return answerOfFailure();
        }
        stepsMade = prover.steps;
        literals = proved.length();
        told = terms.list(proved);
        return DONE;
    }

    private int undo() {
        Thing last = book.takeBack();
        if (last == null) {
            return NAME;
        }
        keptCells = last.cellsBefore;
        return DONE;
    }

    private int answerOfFailure() {
        stepsMade = prover.steps;
        workFault = prover.fault;
        if (workFault != 0) {
            return WORK;
        }
        told = prover.wrong;
        return WRONG;
    }

    private void take(Thing thing) {
        book.take(thing);
        keptCells = cells.length();
    }

    private boolean mayName(int name) {
        return cells.isSymbol(name) && name > NOT;
    }

    /** A row of numbers that grows; what is outside of it is 0. */
    private static final class Row {
        // Far above what the limits of the document let any row need.
        private static final int MOST = 1 << 20;

        private int[] kept;
        private int used;

        Row(int room) {
            kept = new int[Math.max(room, 1)];
        }

        int length() {
            return used;
        }

        int at(int k) {
            return k >= 0 && k < used ? kept[k] : 0;
        }

        int last() {
            return used > 0 ? kept[used - 1] : 0;
        }

        void add(int x) {
            if (used >= MOST) {
                return;
            }
            if (used >= kept.length) {
                kept = Arrays.copyOf(kept, kept.length * 2);
            }
            kept[used] = x;
            used++;
        }

        void addAll(int[] row) {
            if (used + row.length > MOST) {
                return;
            }
            if (used + row.length > kept.length) {
                kept = Arrays.copyOf(kept, (used + row.length) * 2);
            }
            System.arraycopy(row, 0, kept, used, row.length);
            used += row.length;
        }

        int takeLast() {
            if (used <= 0) {
                return 0;
            }
            used--;
            return kept[used];
        }

        void cut(int length) {
            if (length >= 0 && length < used) {
                used = length;
            }
        }

        int[] copy() {
            return Arrays.copyOf(kept, used);
        }
    }

    /**
     * The objects. Each is kept once, so that two are the same one when their numbers are. The latest
     * ones can be released.
     */
    private static final class Cells {
        private static final int MOST = 1 << 20;
        private static final int SLOT_BITS = 9;
        private static final long MIXER = 0x9E3779B97F4A7C15L;
        // A key is a natural, a symbol's code with this bit, or a pair's two numbers with the sign.
        private static final long SYMBOL = 1L << 62;
        private static final long PAIR_SIGN = 1L << 63;
        private static final int SIDE_BITS = 31;
        private static final long SIDE = (1L << SIDE_BITS) - 1;

        private long[] keys = new long[64];
        private int[] heights = new int[64];
        private int[] nexts = new int[64];
        private final int[] slots = new int[1 << SLOT_BITS];
        private int used;

        Cells() {
            Arrays.fill(slots, NONE);
            addNames(FUNCTION_NAMES);
            addNames(COMMAND_NAMES);
            addNames(RULE_NAMES);
        }

        private void addNames(String names) {
            long code = 0;
            for (int k = 0; k < names.length(); k++) {
                if (names.charAt(k) == ' ') {
                    symbol(code);
                    code = 0;
                } else {
                    code = longerCode(code, names.charAt(k));
                }
            }
        }

        static long longerCode(long code, int letter) {
            return code * (LETTERS.length() + 1) + LETTERS.indexOf((char) letter) + 1;
        }

        int length() {
            return used;
        }

        int natural(long n) {
            return numberOf(n, 0);
        }

        int symbol(long code) {
            return numberOf(code | SYMBOL, 0);
        }

        int pair(int first, int second) {
            int height = 1 + Math.max(height(first), height(second));
            return numberOf(PAIR_SIGN | (long) first << SIDE_BITS | second, height);
        }

        private int numberOf(long key, int height) {
            int slot = slot(key);
            int k = slots[slot];
            for (int n = 0; n < used && k >= 0 && k < used; n++) {
                if (keys[k] == key) {
                    return k;
                }
                k = nexts[k];
            }
            if (used >= MOST) {
                return NIL;
            }
            if (used >= keys.length) {
                keys = Arrays.copyOf(keys, used * 2);
                heights = Arrays.copyOf(heights, used * 2);
                nexts = Arrays.copyOf(nexts, used * 2);
            }
            keys[used] = key;
            heights[used] = height;
            nexts[used] = slots[slot];
            slots[slot] = used;
            used++;
            return used - 1;
        }

        private static int slot(long key) {
            return (int) (key * MIXER >>> 64 - SLOT_BITS);
        }

        // The latest object of a slot stands first in it, so going back through all undoes each.
        void release(int length) {
            for (int k = used - 1; k >= length && k > INDUCT; k--) {
                slots[slot(keys[k])] = nexts[k];
                used = k;
            }
        }

        boolean isPair(int k) {
            return k >= 0 && k < used && keys[k] < 0;
        }

        boolean isSymbol(int k) {
            return k >= 0 && k < used && keys[k] >= SYMBOL;
        }

        boolean isNatural(int k) {
            return k >= 0 && k < used && keys[k] >= 0 && keys[k] < SYMBOL;
        }

        boolean isVariable(int k) {
            return isSymbol(k) && k != NIL && k != T;
        }

        int first(int k) {
            return k >= 0 && k < used && keys[k] < 0 ? (int) (keys[k] >>> SIDE_BITS & SIDE) : NIL;
        }

        int rest(int k) {
            return k >= 0 && k < used && keys[k] < 0 ? (int) (keys[k] & SIDE) : NIL;
        }

        int height(int k) {
            return k >= 0 && k < used ? heights[k] : 0;
        }

        long value(int k) {
            return isNatural(k) ? keys[k] : 0;
        }

        long code(int k) {
            return isSymbol(k) ? keys[k] & ~SYMBOL : 0;
        }

        /** How many objects a list has; NONE when it is no list. */
        int listLength(int object) {
            int rest = object;
            int length = 0;
            for (int n = 0; n < used && isPair(rest); n++) {
                rest = rest(rest);
                length++;
            }
            return rest == NIL ? length : NONE;
        }

        int part(int list, int n) {
            int rest = list;
            for (int k = 0; k < n && isPair(rest); k++) {
                rest = rest(rest);
            }
            return first(rest);
        }

        boolean isQuoted(int object) {
            int rest = rest(object);
            return first(object) == QUOTE && isPair(rest) && rest(rest) == NIL;
        }
    }

    /** Reads a TEXT. */
    private static final class Reader {
        private static final int NO_WORD = 1;
        private static final int LONG_ATOM = 2;
        private static final int ATOM = 3;

        // What may come next, within each that is open.
        private static final int WHOLE = 0;
        private static final int NOTHING = 1;
        private static final int QUOTED = 2;
        private static final int EMPTY = 3;
        private static final int MORE = 4;
        private static final int AFTER_DOT = 5;
        private static final int CLOSING = 6;

        private final Cells cells;
        private final Row states = new Row(MOST_OPEN + 1);
        private final Row starts = new Row(MOST_OPEN + 1);
        private final Row items = new Row(64);
        private int at;
        private int words;
        private int atom;
        private int fault;
        private int place = NONE;

        Reader(Cells cells) {
            this.cells = cells;
        }

        /** The object that a text tells; NONE with a FAULT. */
        int read(Row text) {
            begin();
            skipBlanks(text);
            for (int n = 0; n < text.length() && at < text.length() && fault == 0; n++) {
                int start = at;
                int word = takeWord(text);
                fault = faultOf(word);
                if (fault == 0) {
                    accept(word);
                    skipBlanks(text);
                } else {
                    place = start;
                }
            }
            if (fault == 0 && states.last() != NOTHING) {
                fault = 3;
                place = text.length();
            }
            return fault == 0 ? items.at(0) : NONE;
        }

        private void begin() {
            states.cut(0);
            states.add(WHOLE);
            starts.cut(0);
            starts.add(0);
            items.cut(0);
            at = 0;
            words = 0;
            fault = 0;
            place = NONE;
        }

        private void skipBlanks(Row text) {
            boolean remark = false;
            for (; at < text.length(); at++) {
                int c = text.at(at);
                if (c == '\n') {
                    remark = false;
                } else if (c == ';') {
                    remark = true;
                } else if (c != ' ' && !remark) {
                    return;
                }
            }
        }

        private int takeWord(Row text) {
            int c = text.at(at);
            if (LETTERS.indexOf((char) c) >= 0) {
                return takeAtom(text);
            }
            at++;
            return c == '(' || c == ')' || c == '\'' || c == '.' ? c : NO_WORD;
        }

        private int takeAtom(Row text) {
            int start = at;
            boolean digits = true;
            boolean great = false;
            long natural = 0;
            long code = 0;
            for (; at < text.length() && LETTERS.indexOf((char) text.at(at)) >= 0; at++) {
                int digit = text.at(at) - '0';
                digits = digits && digit >= 0 && digit <= 9;
                if (digits && natural <= (MOST_NATURAL - digit) / 10) {
                    natural = natural * 10 + digit;
                } else {
                    great = true;
                }
                if (at - start < MOST_LETTERS) {
                    code = Cells.longerCode(code, text.at(at));
                }
            }
            if (digits ? great : at - start > MOST_LETTERS) {
                return LONG_ATOM;
            }
            atom = digits ? cells.natural(natural) : cells.symbol(code);
            return ATOM;
        }

        private int faultOf(int word) {
            if (word == NO_WORD || word == LONG_ATOM) {
                return word;
            }
            if (!mayStand(word)) {
                return 3;
            }
            if ((word == '(' || word == '\'') && states.length() > MOST_OPEN) {
                return 4;
            }
            return words >= MOST_WORDS ? 5 : 0;
        }

        private boolean mayStand(int word) {
            int state = states.last();
            switch (word) {
                case ')':
                    return state == EMPTY || state == MORE || state == CLOSING;
                case '.':
                    return state == MORE;
                default:
                    return state != NOTHING && state != CLOSING;
            }
        }

        private void accept(int word) {
            words++;
            switch (word) {
                case '(':
                    open(EMPTY);
                    break;
                case '\'':
                    open(QUOTED);
                    break;
                case '.':
                    become(AFTER_DOT);
                    break;
                case ')':
                    close();
                    break;
                default:
                    addObject(atom);
            }
        }

        private void open(int state) {
            states.add(state);
            starts.add(items.length());
        }

        private void become(int state) {
            states.takeLast();
            states.add(state);
        }

        private void close() {
            int list = states.last() == CLOSING ? items.takeLast() : NIL;
            int start = starts.takeLast();
            states.takeLast();
            for (int k = items.length() - 1; k >= start; k--) {
                list = cells.pair(items.at(k), list);
            }
            items.cut(start);
            addObject(list);
        }

        private void addObject(int object) {
            int whole = object;
            for (int n = 0; n < MOST_OPEN && states.last() == QUOTED; n++) {
                states.takeLast();
                starts.takeLast();
                whole = cells.pair(QUOTE, cells.pair(whole, NIL));
            }
            items.add(whole);
            switch (states.last()) {
                case WHOLE:
                    become(NOTHING);
                    break;
                case AFTER_DOT:
                    become(CLOSING);
                    break;
                default:
                    become(MORE);
            }
        }
    }

    /** OUT, and how objects are TOLD there. */
    private static final class Teller {
        private final Cells cells;
        private final Row out = new Row(256);
        private final Row rests = new Row(64);

        Teller(Cells cells) {
            this.cells = cells;
        }

        void clear() {
            out.cut(0);
        }

        int length() {
            return out.length();
        }

        int at(int k) {
            return out.at(k);
        }

        // Each turn puts a character at least, so OUT is full when the turns are used up.
        void tellObject(int object) {
            rests.cut(0);
            int next = object;
            for (int n = 0; n <= MOST_OUT && next != NONE; n++) {
                int within = tellFront(next);
                next = within == NONE ? tellBehind() : within;
            }
        }

        /** Tells an object up to the first one in it, and answers that; NONE when there is none. */
        private int tellFront(int object) {
            if (!cells.isPair(object)) {
                tellAtom(object);
                return NONE;
            }
            if (cells.isQuoted(object)) {
                put('\'');
                return cells.part(object, 1);
            }
            put('(');
            rests.add(cells.rest(object));
            return cells.first(object);
        }

        /** Tells what is behind an object, up to the next one, and answers that; NONE at the end. */
        private int tellBehind() {
            for (int n = rests.length(); n > 0; n--) {
                int rest = rests.takeLast();
                if (cells.isPair(rest)) {
                    put(' ');
                    rests.add(cells.rest(rest));
                    return cells.first(rest);
                }
                if (rest != NIL) {
                    put(' ');
                    put('.');
                    put(' ');
                    tellAtom(rest);
                }
                put(')');
            }
            return NONE;
        }

        private void tellAtom(int object) {
            if (cells.isNatural(object)) {
                tellDigits(cells.value(object), 10);
            } else {
                tellDigits(cells.code(object), LETTERS.length() + 1);
            }
        }

        private void tellDigits(long number, int base) {
            long unit = 1;
            for (int n = 0; n < 64 && number / unit >= base; n++) {
                unit *= base;
            }
            for (int n = 0; n < 64 && unit > 0; n++) {
                int digit = (int) (number / unit % base);
                put(base == 10 ? '0' + digit : letterOf(digit));
                unit /= base;
            }
        }

        private static int letterOf(int digit) {
            return digit > 0 && digit <= LETTERS.length() ? LETTERS.charAt(digit - 1) : '?';
        }

        private void put(int c) {
            if (out.length() < MOST_OUT) {
                out.add(c);
            }
        }
    }

    /**
     * A term: a row of tokens, each call's ahead of those of its terms, so that there are as many as its
     * SIZE. A token has what it is, how many terms a call takes, and its kind.
     */
    private static final class Term {
        private static final int VARIABLE_KIND = 0;
        private static final int CONSTANT_KIND = 1;
        private static final int CALL_KIND = 2;
        private static final int KINDS = 3;
        private static final int TAKES_PLACE = 2;
        private static final int MOST_TAKES = 7;
        private static final int WHAT_PLACE = 5;
        private static final int IF_CALL = IF << WHAT_PLACE | 3 << TAKES_PLACE | CALL_KIND;
        private static final int EQUAL_CALL = EQUAL << WHAT_PLACE | 2 << TAKES_PLACE | CALL_KIND;
        private static final int NOT_CALL = NOT << WHAT_PLACE | 1 << TAKES_PLACE | CALL_KIND;

        private final int[] tokens;

        Term(int[] tokens) {
            this.tokens = tokens;
        }

        static int variable(int symbol) {
            return symbol << WHAT_PLACE | VARIABLE_KIND;
        }

        static int constant(int object) {
            return object << WHAT_PLACE | CONSTANT_KIND;
        }

        static int call(int function, int takes) {
            return function << WHAT_PLACE | takes << TAKES_PLACE | CALL_KIND;
        }

        static boolean isVariable(int token) {
            return (token & KINDS) == VARIABLE_KIND;
        }

        static boolean isConstant(int token) {
            return (token & KINDS) == CONSTANT_KIND;
        }

        static boolean isCall(int token) {
            return (token & KINDS) == CALL_KIND;
        }

        /** The symbol of a variable, the object of a constant, the function of a call. */
        static int what(int token) {
            return token >> WHAT_PLACE;
        }

        static int takes(int token) {
            return token >> TAKES_PLACE & MOST_TAKES;
        }

        static int placeOf(int token, int[] row) {
            for (int k = 0; k < row.length; k++) {
                if (row[k] == token) {
                    return k;
                }
            }
            return NONE;
        }

        int length() {
            return tokens.length;
        }

        int at(int k) {
            return k >= 0 && k < tokens.length ? tokens[k] : NONE;
        }

        boolean isSame(Term other) {
            if (other.tokens.length != tokens.length) {
                return false;
            }
            for (int k = 0; k < tokens.length; k++) {
                if (tokens[k] != other.tokens[k]) {
                    return false;
                }
            }
            return true;
        }

        /** Whether another term stands at a place of this one. */
        boolean stands(Term other, int place) {
            for (int k = 0; k < other.tokens.length; k++) {
                if (at(place + k) != other.tokens[k]) {
                    return false;
                }
            }
            return true;
        }

        /** The place behind the term that begins at a place. */
        int behind(int place) {
            int open = 1;
            int k = Math.max(place, 0);
            for (; k < tokens.length && open > 0; k++) {
                open += (tokens[k] >> TAKES_PLACE & MOST_TAKES) - 1;
            }
            return k;
        }

        /** The term that begins at a place. */
        Term part(int place) {
            int behind = behind(place);
            if (place < 0 || place > behind || behind > tokens.length) {
                return this;
            }
            return new Term(Arrays.copyOfRange(tokens, place, behind));
        }

        boolean has(int token, int from, int to) {
            for (int k = from; k < to; k++) {
                if (at(k) == token) {
                    return true;
                }
            }
            return false;
        }

        boolean hasNoVariablesBut(int[] variables) {
            for (int k = 0; k < tokens.length; k++) {
                if (isVariable(tokens[k]) && placeOf(tokens[k], variables) == NONE) {
                    return false;
                }
            }
            return true;
        }
    }

    /** A clause that is made, literal by literal; one that is TOO BIG stays so. */
    private static final class Clause {
        private final Term[] literals = new Term[MOST_LITERALS];
        private int used;
        private int sizes;
        private boolean tooBig;

        int length() {
            return used;
        }

        boolean isTooBig() {
            return tooBig;
        }

        Term at(int k) {
            return k >= 0 && k < used ? literals[k] : null;
        }

        /** Takes one more literal; null is one that was TOO BIG. */
        void add(Term literal) {
            if (literal == null) {
                tooBig = true;
                return;
            }
            if (has(literal)) {
                return;
            }
            if (used >= MOST_LITERALS || sizes + literal.length() > MOST_SIZES) {
                tooBig = true;
                return;
            }
            literals[used] = literal;
            used++;
            sizes += literal.length();
        }

        void addFrom(Clause other, int first) {
            for (int k = first; k < other.used; k++) {
                add(other.at(k));
            }
        }

        void addAllBut(Term one, Clause other) {
            for (int k = 0; k < other.used; k++) {
                Term literal = other.at(k);
                if (literal != null && !literal.isSame(one)) {
                    add(literal);
                }
            }
        }

        boolean has(Term term) {
            for (int k = 0; k < used; k++) {
                Term literal = at(k);
                if (literal != null && literal.isSame(term)) {
                    return true;
                }
            }
            return false;
        }

        boolean isWithin(Clause other) {
            for (int k = 0; k < used; k++) {
                Term literal = at(k);
                if (literal != null && !other.has(literal)) {
                    return false;
                }
            }
            return true;
        }
    }

    /** What was taken: a function, or a theorem, which has no parameters and can't be called. */
    private static final class Thing {
        private final int name;
        private final int call;
        private final int[] parameters;
        private final Term term;
        private final int cellsBefore;

        Thing(int name, int call, int[] parameters, Term term, int cellsBefore) {
            this.name = name;
            this.call = call;
            this.parameters = parameters;
            this.term = term;
            this.cellsBefore = cellsBefore;
        }

        boolean isFunction() {
            return call != NONE;
        }

        boolean callsItself() {
            return term.has(call, 0, term.length());
        }
    }

    /** All that was taken and is not gone. */
    private static final class Book {
        private final ArrayList<Thing> things = new ArrayList<>();
        private final ArrayList<Thing> functions = new ArrayList<>();
        private final ArrayList<Thing> theorems = new ArrayList<>();

        int functions() {
            return functions.size();
        }

        int theorems() {
            return theorems.size();
        }

        Thing thing(int k) {
            return k >= 0 && k < things.size() ? things.get(k) : null;
        }

        Thing function(int name) {
            for (int k = 0; k < functions.size(); k++) {
                if (functions.get(k).name == name) {
                    return functions.get(k);
                }
            }
            return null;
        }

        Thing theorem(int name) {
            for (int k = 0; k < theorems.size(); k++) {
                if (theorems.get(k).name == name) {
                    return theorems.get(k);
                }
            }
            return null;
        }

        int nameOfFunction(int function) {
            int k = function - FIRST_DEFINED;
            return k >= 0 && k < functions.size() ? functions.get(k).name : function;
        }

        void take(Thing thing) {
            things.add(thing);
            if (thing.isFunction()) {
                functions.add(thing);
            } else {
                theorems.add(thing);
            }
        }

        /** What was taken last, which is gone then; null when there is nothing. */
        Thing takeBack() {
            if (things.isEmpty()) {
                return null;
            }
            Thing last = things.remove(things.size() - 1);
            ArrayList<Thing> kind = last.isFunction() ? functions : theorems;
            if (!kind.isEmpty()) {
                kind.remove(kind.size() - 1);
            }
            return last;
        }
    }

    /** Reads terms from objects, makes objects of terms, and terms of terms (null when TOO BIG). */
    private static final class Terms {
        private final Cells cells;
        private final Book book;
        private final Row row = new Row(2 * MOST_SIZE + 1);
        private final Row todo = new Row(MOST_SIZE);
        private int ownName = NONE;
        private int ownCall = NONE;

        Terms(Cells cells, Book book) {
            this.cells = cells;
            this.book = book;
        }

        /** The term that an object of a TEXT is; null when it is none. */
        Term read(int object) {
            row.cut(0);
            todo.cut(0);
            todo.add(object);
            for (int n = 0; n < MOST_SIZE && todo.length() > 0; n++) {
                int next = todo.takeLast();
                int token = tokenOf(next);
                if (token == NONE || Term.isCall(token) && !putOff(next, Term.takes(token))) {
                    return null;
                }
                row.add(token);
            }
            return todo.length() == 0 ? made() : null;
        }

        /** Reads a term in which a function that is to be DEFINED can be called. */
        Term readBody(int object, int name, int call) {
            ownName = name;
            ownCall = call;
            Term body = read(object);
            ownName = NONE;
            ownCall = NONE;
            return body;
        }

        private int tokenOf(int object) {
            if (cells.isVariable(object)) {
                return Term.variable(object);
            }
            if (!cells.isPair(object)) {
                return Term.constant(object);
            }
            return cells.isQuoted(object)
                    ? Term.constant(cells.part(object, 1))
                    : callOf(cells.first(object));
        }

        private int callOf(int name) {
            if (name == ownName) {
                return ownCall;
            }
            if (name >= IF && name <= NOT) {
                return Term.call(name, TAKES[name - IF]);
            }
            Thing function = book.function(name);
            return function == null ? NONE : function.call;
        }

        private boolean putOff(int call, int takes) {
            if (cells.listLength(call) != takes + 1) {
                return false;
            }
            for (int k = takes; k > 0; k--) {
                todo.add(cells.part(call, k));
            }
            return true;
        }

        /** The tokens of a list of different variables, as many as parameters can be; else null. */
        int[] variables(int list) {
            int length = cells.listLength(list);
            if (length < 0 || length > MOST_PARAMETERS) {
                return null;
            }
            int[] variables = new int[length];
            Arrays.fill(variables, NONE);
            for (int k = 0; k < length; k++) {
                int symbol = cells.part(list, k);
                int token = Term.variable(symbol);
                if (!cells.isVariable(symbol) || Term.placeOf(token, variables) != NONE) {
                    return null;
                }
                variables[k] = token;
            }
            return variables;
        }

        // From the right, so that a call finds its terms made, the first one last.
        int object(Term term) {
            todo.cut(0);
            for (int k = term.length() - 1; k >= 0; k--) {
                int token = term.at(k);
                todo.add(Term.isCall(token) ? callObject(token) : leafObject(token));
            }
            return todo.last();
        }

        private int callObject(int token) {
            int start = todo.length() - Term.takes(token);
            int list = NIL;
            for (int k = start; k < todo.length(); k++) {
                list = cells.pair(todo.at(k), list);
            }
            todo.cut(start);
            return cells.pair(book.nameOfFunction(Term.what(token)), list);
        }

        private int leafObject(int token) {
            int object = Term.what(token);
            boolean bare = cells.isNatural(object) || object == NIL || object == T;
            return bare || Term.isVariable(token) ? object : cells.pair(QUOTE, cells.pair(object, NIL));
        }

        int list(int[] variables) {
            int list = NIL;
            for (int k = variables.length - 1; k >= 0; k--) {
                list = cells.pair(Term.what(variables[k]), list);
            }
            return list;
        }

        int list(Clause clause) {
            int list = NIL;
            for (int k = clause.length() - 1; k >= 0; k--) {
                Term literal = clause.at(k);
                if (literal != null) {
                    list = cells.pair(object(literal), list);
                }
            }
            return list;
        }

        private Term made() {
            return row.length() <= MOST_SIZE ? new Term(row.copy()) : null;
        }

        Term leaf(int token) {
            row.cut(0);
            row.add(token);
            return made();
        }

        Term call(int function, Term a) {
            if (a == null) {
                return null;
            }
            row.cut(0);
            row.add(Term.call(function, 1));
            row.addAll(a.tokens);
            return made();
        }

        Term call(int function, Term a, Term b) {
            if (a == null || b == null) {
                return null;
            }
            row.cut(0);
            row.add(Term.call(function, 2));
            row.addAll(a.tokens);
            row.addAll(b.tokens);
            return made();
        }

        Term call(int function, Term a, Term b, Term c) {
            if (a == null || b == null || c == null) {
                return null;
            }
            row.cut(0);
            row.add(Term.call(function, 3));
            row.addAll(a.tokens);
            row.addAll(b.tokens);
            row.addAll(c.tokens);
            return made();
        }

        /** The call of a function with its own parameters. */
        Term callOfItself(Thing function) {
            row.cut(0);
            row.add(function.call);
            row.addAll(function.parameters);
            return made();
        }

        /** NOT a term. */
        Term not(Term term) {
            if (term == null) {
                return null;
            }
            int token = term.at(0);
            if (token == Term.NOT_CALL) {
                return term.part(1);
            }
            row.cut(0);
            if (Term.isConstant(token)) {
                row.add(Term.constant(Term.what(token) == NIL ? T : NIL));
            } else {
                row.add(Term.NOT_CALL);
                row.addAll(term.tokens);
            }
            return made();
        }

        /** A term with others in the places of variables, all at once. */
        Term instance(Term term, int[] variables, Term[] others) {
            if (term == null) {
                return null;
            }
            row.cut(0);
            for (int k = 0; k < term.length() && row.length() <= MOST_SIZE; k++) {
                int token = term.at(k);
                int place = Term.isVariable(token) ? Term.placeOf(token, variables) : NONE;
                Term other = place >= 0 && place < others.length ? others[place] : null;
                if (other == null) {
                    row.add(token);
                } else {
                    row.addAll(other.tokens);
                }
            }
            return made();
        }

        /** A term with b wherever a stands in it. */
        Term replaced(Term term, Term a, Term b) {
            if (term == null) {
                return null;
            }
            row.cut(0);
            int place = 0;
            for (int n = 0; n < MOST_SIZE && place < term.length() && row.length() <= MOST_SIZE; n++) {
                if (term.stands(a, place)) {
                    row.addAll(b.tokens);
                    place += a.length();
                } else {
                    row.add(term.at(place));
                    place++;
                }
            }
            return made();
        }
    }

    /** The PATHS of a body, and the INDUCTION by them. */
    private static final class Paths {
        private final Terms terms;

        Paths(Terms terms) {
            this.terms = terms;
        }

        /** How many ENDS the term has that begins at a place. */
        static int ends(Term body, int place) {
            int open = 1;
            int ends = 0;
            int at = place;
            for (int n = 0; n < MOST_SIZE && open > 0; n++) {
                if (body.at(at) == Term.IF_CALL) {
                    at = body.behind(at + 1);
                    open++;
                } else {
                    at = body.behind(at);
                    open--;
                    ends++;
                }
            }
            return ends;
        }

        /** Whether no RULER, and no term of a call of the function, has a call of it. */
        static boolean areLawful(Term body, int call) {
            int at = 0;
            for (int n = 0; n < MOST_SIZE && at < body.length(); n++) {
                boolean branches = body.at(at) == Term.IF_CALL;
                int from = branches ? at + 1 : at;
                at = body.behind(from);
                if (branches && body.has(call, from, at)) {
                    return false;
                }
            }
            for (int k = 0; k < body.length(); k++) {
                if (body.at(k) == call && body.has(call, k + 1, body.behind(k))) {
                    return false;
                }
            }
            return true;
        }

        /** A function's body with variables in the places of its parameters. */
        Term bodyWith(int[] variables, Thing function) {
            Term[] leaves = new Term[variables.length];
            for (int k = 0; k < variables.length; k++) {
                leaves[k] = terms.leaf(variables[k]);
            }
            return terms.instance(function.term, function.parameters, leaves);
        }

        /** The INDUCTION's clause for one PATH of a body in which the variables stand already. */
        Clause induction(Term goal, Term body, int call, int[] variables, int path) {
            Clause made = new Clause();
            int at = 0;
            int left = path;
            for (int n = 0; n < MOST_SIZE && body.at(at) == Term.IF_CALL; n++) {
                int second = body.behind(at + 1);
                int ends = ends(body, second);
                Term test = body.part(at + 1);
                boolean goesSecond = left < ends;
                made.add(terms.not(goesSecond ? test : terms.not(test)));
                at = goesSecond ? second : body.behind(second);
                left -= goesSecond ? 0 : ends;
            }
            int behind = body.behind(at);
            for (int k = at; k < behind; k++) {
                if (body.at(k) == call) {
                    Term[] others = termsOfCall(body, k, variables.length);
                    made.add(terms.not(terms.instance(goal, variables, others)));
                }
            }
            made.add(goal);
            return made;
        }

        private static Term[] termsOfCall(Term term, int place, int length) {
            Term[] found = new Term[length];
            int at = place + 1;
            for (int k = 0; k < length; k++) {
                found[k] = term.part(at);
                at = term.behind(at);
            }
            return found;
        }
    }

    /** Finds the clauses of PROOFS. A rule answers null when it failed, and leaves here why. */
    private static final class Prover {
        private final Cells cells;
        private final Book book;
        private final Terms terms;
        private final Paths paths;
        private int fuel;
        private int steps;
        private int fault;
        private int wrong;

        Prover(Cells cells, Book book, Terms terms) {
            this.cells = cells;
            this.book = book;
            this.terms = terms;
            paths = new Paths(terms);
        }

        Prover begin(int fuelOfCommand) {
            fuel = fuelOfCommand;
            steps = 0;
            fault = 0;
            wrong = NIL;
            return this;
        }

        /** The clause of a PROOF that is within as many others as depth tells. */
        Clause prove(int proof, int depth) {
            if (depth >= MOST_DEEP) {
                return failBy(TOO_DEEP);
            }
            if (steps >= fuel) {
                return failBy(OUT_OF_FUEL);
            }
            steps++;
            int length = cells.listLength(proof);
            int rule = length > 0 ? cells.first(proof) : NIL;
            if (rule < TAUT || rule > INDUCT || !isLengthOf(rule, length)) {
                return failAt(proof);
            }
            switch (rule) {
                case VALUE:
                    return value(proof);
                case DEF:
                    return definition(proof);
                case THM:
                    return theorem(proof);
                case WEAK:
                    return weak(proof, depth);
                case CUT:
                    return cut(proof, depth);
                case INST:
                    return inst(proof, length - 2, depth);
                case SWAP:
                    return swap(proof, depth);
                case PUT:
                    return put(proof, depth);
                case INDUCT:
                    return induct(proof, length - 3, depth);
                default:
                    return axiom(proof, rule, length - 1);
            }
        }

        private static boolean isLengthOf(int rule, int length) {
            switch (rule) {
                case INST:
                    return length >= 2;
                case INDUCT:
                    return length >= 3;
                case YES:
                case NO:
                case CUT:
                    return length == 4;
                case FIRST:
                case SECOND:
                case PAIR:
                case WEAK:
                case PUT:
                    return length == 3;
                default:
                    return length == 2;
            }
        }

        private Clause failBy(int reason) {
            fault = reason;
            return null;
        }

        private Clause failAt(int proof) {
            wrong = proof;
            return null;
        }

        private Clause finished(Clause made) {
            return made.isTooBig() ? failBy(TOO_BIG) : made;
        }

        private Clause axiom(int proof, int rule, int takes) {
            Term l = terms.read(cells.part(proof, 1));
            Term m = takes > 1 ? terms.read(cells.part(proof, 2)) : l;
            Term n = takes > 2 ? terms.read(cells.part(proof, 3)) : l;
            if (l == null || m == null || n == null) {
                return failAt(proof);
            }
            Clause made = new Clause();
            switch (rule) {
                case TAUT:
                    made.add(l);
                    made.add(terms.not(l));
                    break;
                case SAME:
                    made.add(terms.call(EQUAL, l, l));
                    break;
                case FIRST:
                    made.add(terms.call(EQUAL, terms.call(CAR, terms.call(CONS, l, m)), l));
                    break;
                case SECOND:
                    made.add(terms.call(EQUAL, terms.call(CDR, terms.call(CONS, l, m)), m));
                    break;
                case PAIR:
                    made.add(terms.call(CONSP, terms.call(CONS, l, m)));
                    break;
                case YES:
                    made.add(terms.not(l));
                    made.add(terms.call(EQUAL, terms.call(IF, l, m, n), m));
                    break;
                default:
                    made.add(l);
                    made.add(terms.call(EQUAL, terms.call(IF, l, m, n), n));
            }
            return finished(made);
        }

        private Clause value(int proof) {
            Term call = terms.read(cells.part(proof, 1));
            int value = call != null && isCallOfConstants(call) ? valueOf(call) : NONE;
            if (value == NONE) {
                return failAt(proof);
            }
            Clause made = new Clause();
            made.add(terms.call(EQUAL, call, terms.leaf(Term.constant(value))));
            return finished(made);
        }

        private static boolean isCallOfConstants(Term term) {
            int token = term.at(0);
            if (!Term.isCall(token) || Term.what(token) >= FIRST_DEFINED) {
                return false;
            }
            for (int k = 1; k < term.length(); k++) {
                if (!Term.isConstant(term.at(k))) {
                    return false;
                }
            }
            return true;
        }

        /** The value of a call of a BASE function of constants; NONE when it is TOO GREAT. */
        private int valueOf(Term call) {
            int a = Term.what(call.at(1));
            int b = Term.what(call.at(2));
            switch (Term.what(call.at(0))) {
                case IF:
                    return a != NIL ? b : Term.what(call.at(3));
                case EQUAL:
                    return truth(a == b);
                case CONS:
                    return cells.pair(a, b);
                case IMPLIES:
                    return truth(a == NIL || b != NIL);
                case PLUS:
                    long sum = cells.value(a) + cells.value(b);
                    return sum > MOST_NATURAL ? NONE : cells.natural(sum);
                case MINUS:
                    return cells.natural(Math.max(cells.value(a) - cells.value(b), 0L));
                case LESS:
                    return truth(cells.value(a) < cells.value(b));
                case CONSP:
                    return truth(cells.isPair(a));
                case CAR:
                    return cells.first(a);
                case CDR:
                    return cells.rest(a);
                case NATP:
                    return truth(cells.isNatural(a));
                case SYMBOLP:
                    return truth(cells.isSymbol(a));
                case HEIGHT:
                    return cells.natural(cells.height(a));
                default:
                    return truth(a == NIL);
            }
        }

        private static int truth(boolean so) {
            return so ? T : NIL;
        }

        private Clause definition(int proof) {
            Thing function = book.function(cells.part(proof, 1));
            if (function == null) {
                return failAt(proof);
            }
            Clause made = new Clause();
            made.add(terms.call(EQUAL, terms.callOfItself(function), function.term));
            return finished(made);
        }

        private Clause theorem(int proof) {
            Thing theorem = book.theorem(cells.part(proof, 1));
            if (theorem == null) {
                return failAt(proof);
            }
            Clause made = new Clause();
            made.add(theorem.term);
            return finished(made);
        }

        private Clause weak(int proof, int depth) {
            int list = cells.part(proof, 1);
            int length = cells.listLength(list);
            if (length < 0) {
                return failAt(proof);
            }
            Term[] others = new Term[length];
            int rest = list;
            for (int k = 0; k < length; k++) {
                others[k] = terms.read(cells.first(rest));
                if (others[k] == null) {
                    return failAt(proof);
                }
                rest = cells.rest(rest);
            }
            Clause p = prove(cells.part(proof, 2), depth + 1);
            if (p == null) {
                return null;
            }
            Clause made = new Clause();
            made.addFrom(p, 0);
            for (int k = 0; k < length; k++) {
                made.add(others[k]);
            }
            return finished(made);
        }

        private Clause cut(int proof, int depth) {
            Term l = terms.read(cells.part(proof, 1));
            if (l == null) {
                return failAt(proof);
            }
            Clause p = prove(cells.part(proof, 2), depth + 1);
            Clause q = p == null ? null : prove(cells.part(proof, 3), depth + 1);
            if (p == null || q == null) {
                return null;
            }
            if (!p.has(l)) {
                return failAt(proof);
            }
            Term notL = terms.not(l);
            if (notL == null) {
                return failBy(TOO_BIG);
            }
            if (!q.has(notL)) {
                return failAt(proof);
            }
            Clause made = new Clause();
            made.addAllBut(l, p);
            made.addAllBut(notL, q);
            return finished(made);
        }

        private Clause inst(int proof, int length, int depth) {
            if (length < 0) {
                return failAt(proof);
            }
            int[] variables = new int[length];
            Arrays.fill(variables, NONE);
            Term[] others = new Term[length];
            int rest = cells.rest(cells.rest(proof));
            for (int k = 0; k < length; k++) {
                int two = cells.first(rest);
                int symbol = cells.first(two);
                int token = Term.variable(symbol);
                if (cells.listLength(two) != 2 || !cells.isVariable(symbol)
                        || Term.placeOf(token, variables) != NONE) {
                    return failAt(proof);
                }
                variables[k] = token;
                others[k] = terms.read(cells.part(two, 1));
                if (others[k] == null) {
                    return failAt(proof);
                }
                rest = cells.rest(rest);
            }
            Clause p = prove(cells.part(proof, 1), depth + 1);
            if (p == null) {
                return null;
            }
            Clause made = new Clause();
            for (int k = 0; k < p.length(); k++) {
                made.add(terms.instance(p.at(k), variables, others));
            }
            return finished(made);
        }

        private Clause swap(int proof, int depth) {
            Clause p = prove(cells.part(proof, 1), depth + 1);
            if (p == null) {
                return null;
            }
            Term equal = p.at(0);
            if (equal == null || equal.at(0) != Term.EQUAL_CALL) {
                return failAt(proof);
            }
            Clause made = new Clause();
            made.add(terms.call(EQUAL, equal.part(equal.behind(1)), equal.part(1)));
            made.addFrom(p, 1);
            return finished(made);
        }

        private Clause put(int proof, int depth) {
            Clause p = prove(cells.part(proof, 1), depth + 1);
            Clause q = p == null ? null : prove(cells.part(proof, 2), depth + 1);
            if (p == null || q == null) {
                return null;
            }
            Term equal = p.at(0);
            if (equal == null || equal.at(0) != Term.EQUAL_CALL) {
                return failAt(proof);
            }
            Term a = equal.part(1);
            Term b = equal.part(equal.behind(1));
            Clause made = new Clause();
            for (int k = 0; k < q.length(); k++) {
                made.add(terms.replaced(q.at(k), a, b));
            }
            made.addFrom(p, 1);
            return finished(made);
        }

        private Clause induct(int proof, int length, int depth) {
            Term goal = terms.read(cells.part(proof, 1));
            int scheme = cells.part(proof, 2);
            Thing function = cells.listLength(scheme) > 0 ? book.function(cells.first(scheme)) : null;
            int[] variables = terms.variables(cells.rest(scheme));
            if (goal == null || function == null || variables == null || !function.callsItself()
                    || variables.length != function.parameters.length
                    || length < 0 || length != Paths.ends(function.term, 0)) {
                return failAt(proof);
            }
            Clause[] parts = new Clause[length];
            for (int k = 0; k < length; k++) {
                parts[k] = prove(cells.part(proof, k + 3), depth + 1);
                if (parts[k] == null) {
                    return null;
                }
            }
            Term body = paths.bodyWith(variables, function);
            if (body == null) {
                return failBy(TOO_BIG);
            }
            for (int k = 0; k < length; k++) {
                Clause due = paths.induction(goal, body, function.call, variables, k);
                if (due.isTooBig()) {
                    return failBy(TOO_BIG);
                }
                if (parts[k] == null || !parts[k].isWithin(due)) {
                    return failAt(proof);
                }
            }
            Clause made = new Clause();
            made.add(goal);
            return finished(made);
        }
    }
}
