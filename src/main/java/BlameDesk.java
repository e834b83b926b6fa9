/**
 * A small language with types that may be left open: a text is read and checked, casts are put in
 * where an open type meets another one, and it is run; where a cast fails, it is told which place of
 * the text is to blame, and on which side.
 *
 * <p>All rows are made in constructors and used again, so that no call makes an object.
 */
public final class BlameDesk {
    /** Nothing there. */
    public static final int NONE = -1;

    private static final int CHECKED = 0;
    private static final int NO_EXPRESSION = 1;
    private static final int ERROR_FOUND = 2;
    private static final int MAX_FUEL = 40;
    private static final int MAX_TEXT = 100;

    private final Program program;
    private final Reader reader;
    private final Checker checker;
    private final Machine machine;
    private boolean ready;
    private int error;

    /** An empty text, no program. */
    public BlameDesk() {
        Program empty = new Program();
        program = empty;
        reader = new Reader(empty);
        checker = new Checker(empty);
        machine = new Machine(empty);
        ready = false;
        error = NONE;
    }

    /** Appends the bytes of w that are not 0 to the text; false if one is no character, or they are too many. */
    public boolean write(long w) {
        return reader.append(w);
    }

    /** Makes the text the program: 0; 1 if it is no expression, 2 if an error is found. */
    public int check() {
        machine.forget();
        ready = false;
        error = NONE;
        boolean isExpression = reader.readProgram();
        reader.empty();
        if (!isExpression) {
            return NO_EXPRESSION;
        }
        error = checker.firstError();
        if (error != NONE) {
            return ERROR_FOUND;
        }
        ready = true;
        return CHECKED;
    }

    /** The position of the error if check answered 2 at last. */
    public int position() {
        return error;
    }

    /** The code of character k of the program's type. */
    public int type(int k) {
        return ready ? program.types.character(program.type[Program.ROOT], k) : NONE;
    }

    /** Runs the program: 1 it ended with a value, 2 with blame, 3 without fuel, 4 without room. */
    public int run(int fuel) {
        if (!ready || fuel < 0 || fuel > MAX_FUEL) {
            return NONE;
        }
        return machine.execute(fuel);
    }

    /** The value with which the latest run ended: 0 its kind, 1 its number, 2 whether it is tagged. */
    public int result(int what) {
        return machine.partOfResult(what);
    }

    /** The label blamed by the latest run, twice, and 1 if on its other side. */
    public int blamed() {
        return machine.ending == Machine.BLAME ? machine.casts.blame : NONE;
    }

    /** What the latest run put out k before the latest; how many were put out if k is -1. */
    public int output(int k) {
        return k == NONE ? machine.outputs.count : machine.outputs.back(k);
    }

    /** How many calls of functions of the text the latest run made. */
    public int calls() {
        return machine.callCount;
    }

    /** How many cells the latest run made by @. */
    public int stored() {
        return machine.cellCount;
    }

    /** The types of a program, each held once, so that two are the same if their numbers are. */
    private static final class Types {
        // The shapes. The ground type of a shape has the shape's number as its own.
        static final int OPEN = 0;
        static final int INT = 1;
        static final int BOOL = 2;
        static final int FUNCTION = 3;
        static final int CELL = 4;

        private static final int GROUNDS = 5;
        // A character of the text makes at most one type: as its sign, or as that of a function or a new cell.
        private static final int MAX_TYPES = GROUNDS + MAX_TEXT;
        // Twenty levels of annotations below twenty of expressions.
        private static final int MAX_HEIGHT = 40;
        private static final String SIGNS = "?ib";

        final int[] shape;
        // &t has t on both sides: then what goes in and what comes out of a cell is cast as it is with a function.
        final int[] left;
        final int[] right;
        private final int[] length;
        private int count;

        Types() {
            shape = new int[MAX_TYPES];
            left = new int[MAX_TYPES];
            right = new int[MAX_TYPES];
            length = new int[MAX_TYPES];
            for (int ground = 0; ground < GROUNDS; ground++) {
                shape[ground] = ground;
                length[ground] = 1;
            }
            length[FUNCTION] = 5;
            length[CELL] = 2;
            count = GROUNDS;
        }

        void clear() {
            count = GROUNDS;
        }

        int function(int argument, int value) {
            return kept(FUNCTION, argument, value, length[argument] + length[value] + 3);
        }

        int cell(int content) {
            return kept(CELL, content, content, length[content] + 1);
        }

        private int kept(int shaped, int leftPart, int rightPart, int written) {
            for (int t = FUNCTION; t < count; t++) {
                if (shape[t] == shaped && left[t] == leftPart && right[t] == rightPart) {
                    return t;
                }
            }
            if (count >= MAX_TYPES) {
                return OPEN;
            }
            shape[count] = shaped;
            left[count] = leftPart;
            right[count] = rightPart;
            length[count] = written;
            count++;
            return count - 1;
        }

        int ground(int t) {
            return shape[t];
        }

        boolean areConsistent(int t, int u) {
            return partsAreConsistent(t, u, 1);
        }

        /** Whether two types are that stand as deep in two whole ones; the depth keeps the recursion low. */
        private boolean partsAreConsistent(int t, int u, int depth) {
            if (t == u || t == OPEN || u == OPEN) {
                return true;
            }
            if (shape[t] != shape[u] || depth > MAX_HEIGHT) {
                return false;
            }
            if (shape[t] == FUNCTION && !partsAreConsistent(left[t], left[u], depth + 1)) {
                return false;
            }
            return partsAreConsistent(right[t], right[u], depth + 1);
        }

        /** The code of character k of t as it is written. */
        int character(int t, int k) {
            int part = t;
            int at = k;
            for (int depth = 0; depth <= MAX_HEIGHT; depth++) {
                if (at < 0 || at >= length[part]) {
                    return NONE;
                }
                if (shape[part] < FUNCTION) {
                    return SIGNS.charAt(shape[part]);
                }
                if (at == 0) {
                    return shape[part] == CELL ? '&' : '(';
                }
                at--;
                if (shape[part] == CELL || at < length[left[part]]) {
                    part = left[part];
                    continue;
                }
                at -= length[left[part]];
                if (at == 0) {
                    return '>';
                }
                at--;
                if (at == length[right[part]]) {
                    return ')';
                }
                part = right[part];
            }
            return NONE;
        }
    }

    /** The expressions of a text; the number of each is its position, which no other one has. */
    private static final class Program {
        static final int ROOT = 0;

        // The forms of expressions.
        static final int NUMBER = 0;
        static final int BOOLEAN = 1;
        static final int VARIABLE = 2;
        static final int FUNCTION = 3;
        static final int CALL = 4;
        static final int WRITE = 5;
        static final int SUM = 6;
        static final int DIFFERENCE = 7;
        static final int LESS = 8;
        static final int CHOICE = 9;
        static final int NEW_CELL = 10;
        static final int READ = 11;
        static final int CAST = 12;
        static final int OUTPUT = 13;

        final Types types;
        final int[] form;
        final int[] parent;
        final int[] first;
        final int[] second;
        final int[] third;
        // The number, 1 or 0 for T or F, or the letter.
        final int[] number;
        // The type written in a function or a cast.
        final int[] written;
        // How many functions stand between a variable and the one that has it.
        final int[] between;
        final int[] type;
        // What the value is cast to as a part of the parent.
        final int[] castType;
        // The expressions in the order of their ends, which is the order of checking.
        final int[] order;
        int count;

        Program() {
            types = new Types();
            form = new int[MAX_TEXT];
            parent = new int[MAX_TEXT];
            first = new int[MAX_TEXT];
            second = new int[MAX_TEXT];
            third = new int[MAX_TEXT];
            number = new int[MAX_TEXT];
            written = new int[MAX_TEXT];
            between = new int[MAX_TEXT];
            type = new int[MAX_TEXT];
            castType = new int[MAX_TEXT];
            order = new int[MAX_TEXT];
            count = 0;
        }

        void clear() {
            types.clear();
            count = 0;
        }

        void begin(int position, int around) {
            parent[position] = around;
            first[position] = NONE;
            second[position] = NONE;
            third[position] = NONE;
        }

        void end(int position) {
            if (count < MAX_TEXT) {
                order[count] = position;
                count++;
            }
        }
    }

    /** Holds the text, and reads it as a program. */
    private static final class Reader {
        private static final int MAX_DEPTH = 20;
        private static final int MAX_DIGITS = 3;
        private static final int FIRST_CODE = 32;
        private static final int LAST_CODE = 126;
        private static final int TOP_BYTE = 56;
        // No code of a character: what stands behind the text's end.
        private static final char BEHIND = 0;

        private final Program program;
        private final char[] text;
        private int length;
        private int at;

        Reader(Program read) {
            program = read;
            text = new char[MAX_TEXT];
            length = 0;
            at = 0;
        }

        void empty() {
            length = 0;
        }

        boolean append(long w) {
            int more = 0;
            for (int shift = TOP_BYTE; shift >= 0; shift -= 8) {
                int code = (int) (w >>> shift) & 255;
                if (code != 0 && (code < FIRST_CODE || code > LAST_CODE)) {
                    return false;
                }
                if (code != 0) {
                    more++;
                }
            }
            if (more > MAX_TEXT - length) {
                return false;
            }
            for (int shift = TOP_BYTE; shift >= 0; shift -= 8) {
                int code = (int) (w >>> shift) & 255;
                if (code != 0) {
                    text[length] = (char) code;
                    length++;
                }
            }
            return true;
        }

        /** Whether the whole text is an expression. */
        boolean readProgram() {
            program.clear();
            at = 0;
            return readExpression(NONE, 1) != NONE && at == length;
        }

        private char peek() {
            return at < length ? text[at] : BEHIND;
        }

        private boolean skip(char due) {
            if (peek() != due) {
                return false;
            }
            at++;
            return true;
        }

        /** The position of the expression that begins here, or NONE. */
        private int readExpression(int around, int depth) {
            if (depth > MAX_DEPTH || at >= length) {
                return NONE;
            }
            int start = at;
            at++;
            program.begin(start, around);
            boolean isWhole;
            switch (text[start]) {
                case '\\':
                    isWhole = readFunction(start, depth);
                    break;
                case '(':
                    isWhole = readPair(start, depth);
                    break;
                case '{':
                    isWhole = readOperation(start, depth);
                    break;
                case '[':
                    isWhole = readChoice(start, depth);
                    break;
                case '<':
                    isWhole = readCast(start, depth);
                    break;
                case '@':
                    isWhole = readOnlyPart(Program.NEW_CELL, start, depth);
                    break;
                case '!':
                    isWhole = readOnlyPart(Program.READ, start, depth);
                    break;
                case '$':
                    isWhole = readOnlyPart(Program.OUTPUT, start, depth);
                    break;
                default:
                    isWhole = readLeaf(text[start], start);
            }
            if (!isWhole) {
                return NONE;
            }
            program.end(start);
            return start;
        }

        private boolean readLeaf(char sign, int start) {
            if (sign == 'T' || sign == 'F') {
                program.form[start] = Program.BOOLEAN;
                program.number[start] = sign == 'T' ? 1 : 0;
                return true;
            }
            if (isLetter(sign)) {
                program.form[start] = Program.VARIABLE;
                program.number[start] = sign;
                return true;
            }
            if (!isDigit(sign)) {
                return false;
            }
            int number = sign - '0';
            for (int digits = 1; digits < MAX_DIGITS && isDigit(peek()); digits++) {
                number = 10 * number + (peek() - '0');
                at++;
            }
            program.form[start] = Program.NUMBER;
            program.number[start] = number;
            return true;
        }

        private boolean isLetter(char sign) {
            return sign >= 'a' && sign <= 'z';
        }

        private boolean isDigit(char sign) {
            return sign >= '0' && sign <= '9';
        }

        private boolean readFunction(int start, int depth) {
            char letter = peek();
            if (!isLetter(letter)) {
                return false;
            }
            at++;
            program.form[start] = Program.FUNCTION;
            program.number[start] = letter;
            return skip(':') && readWritten(start, depth) && skip('.') && readFirst(start, depth);
        }

        private boolean readPair(int start, int depth) {
            if (!readFirst(start, depth)) {
                return false;
            }
            program.form[start] = peek() == '=' ? Program.WRITE : Program.CALL;
            return (skip('=') || skip(' ')) && readSecond(start, depth) && skip(')');
        }

        private boolean readOperation(int start, int depth) {
            if (!readFirst(start, depth)) {
                return false;
            }
            char sign = peek();
            program.form[start] = sign == '+' ? Program.SUM : sign == '-' ? Program.DIFFERENCE : Program.LESS;
            return (skip('+') || skip('-') || skip('<')) && readSecond(start, depth) && skip('}');
        }

        private boolean readChoice(int start, int depth) {
            program.form[start] = Program.CHOICE;
            if (!readFirst(start, depth) || !skip('?') || !readSecond(start, depth) || !skip(':')) {
                return false;
            }
            program.third[start] = readExpression(start, depth + 1);
            return program.third[start] != NONE && skip(']');
        }

        private boolean readCast(int start, int depth) {
            program.form[start] = Program.CAST;
            return readFirst(start, depth) && skip(':') && readWritten(start, depth) && skip('>');
        }

        private boolean readOnlyPart(int form, int start, int depth) {
            program.form[start] = form;
            return readFirst(start, depth);
        }

        private boolean readFirst(int start, int depth) {
            program.first[start] = readExpression(start, depth + 1);
            return program.first[start] != NONE;
        }

        private boolean readSecond(int start, int depth) {
            program.second[start] = readExpression(start, depth + 1);
            return program.second[start] != NONE;
        }

        private boolean readWritten(int start, int depth) {
            program.written[start] = readType(depth + 1);
            return program.written[start] != NONE;
        }

        /** The type that is written here, or NONE. */
        private int readType(int depth) {
            if (depth > MAX_DEPTH) {
                return NONE;
            }
            if (skip('?')) {
                return Types.OPEN;
            }
            if (skip('i')) {
                return Types.INT;
            }
            if (skip('b')) {
                return Types.BOOL;
            }
            if (skip('&')) {
                int content = readType(depth + 1);
                return content == NONE ? NONE : program.types.cell(content);
            }
            if (!skip('(')) {
                return NONE;
            }
            int argument = readType(depth + 1);
            if (argument == NONE || !skip('>')) {
                return NONE;
            }
            int value = readType(depth + 1);
            if (value == NONE || !skip(')')) {
                return NONE;
            }
            return program.types.function(argument, value);
        }
    }

    /** Gives every expression its type, and the type that its value is cast to. */
    private static final class Checker {
        private final Program program;
        private final Types types;

        Checker(Program checked) {
            program = checked;
            types = checked.types;
        }

        /** The position of the first error, or NONE. */
        int firstError() {
            for (int i = 0; i < program.count; i++) {
                int error = errorIn(program.order[i]);
                if (error != NONE) {
                    return error;
                }
            }
            return NONE;
        }

        /** The position of the error in an expression whose parts have none, or NONE. */
        private int errorIn(int n) {
            int e = program.first[n];
            switch (program.form[n]) {
                case Program.NUMBER:
                    return give(n, Types.INT);
                case Program.BOOLEAN:
                    return give(n, Types.BOOL);
                case Program.VARIABLE:
                    return errorInVariable(n);
                case Program.FUNCTION:
                    return give(n, types.function(program.written[n], program.type[e]));
                case Program.CALL:
                    return errorInPair(n, Types.FUNCTION);
                case Program.WRITE:
                    return errorInPair(n, Types.CELL);
                case Program.LESS:
                    return errorInOperation(n, Types.BOOL);
                case Program.CHOICE:
                    return errorInChoice(n);
                case Program.NEW_CELL:
                    return give(n, types.cell(program.type[e]));
                case Program.READ:
                    return errorInRead(n);
                case Program.CAST:
                    give(n, program.written[n]);
                    return require(e, program.written[n]);
                case Program.OUTPUT:
                    give(n, Types.INT);
                    return require(e, Types.INT);
                default:
                    return errorInOperation(n, Types.INT);
            }
        }

        private int give(int n, int t) {
            program.type[n] = t;
            program.castType[n] = t;
            return NONE;
        }

        private int require(int part, int t) {
            if (!types.areConsistent(program.type[part], t)) {
                return part;
            }
            program.castType[part] = t;
            return NONE;
        }

        private int errorInVariable(int n) {
            int passed = 0;
            int around = program.parent[n];
            // An expression stands behind the one around it, so that the way out ends.
            for (int out = 0; out < MAX_TEXT && around != NONE; out++) {
                if (program.form[around] == Program.FUNCTION) {
                    if (program.number[around] == program.number[n]) {
                        program.between[n] = passed;
                        return give(n, program.written[around]);
                    }
                    passed++;
                }
                around = program.parent[around];
            }
            return n;
        }

        /** A call and a write differ in nothing but the shape that E must have. */
        private int errorInPair(int n, int shape) {
            int e = program.first[n];
            int f = program.second[n];
            int t = program.type[e];
            if (t == Types.OPEN) {
                program.castType[e] = shape;
                program.castType[f] = Types.OPEN;
                return give(n, Types.OPEN);
            }
            if (types.shape[t] != shape) {
                return e;
            }
            give(n, types.right[t]);
            return require(f, types.left[t]);
        }

        private int errorInRead(int n) {
            int e = program.first[n];
            int t = program.type[e];
            if (t == Types.OPEN) {
                program.castType[e] = Types.CELL;
                return give(n, Types.OPEN);
            }
            return types.shape[t] == Types.CELL ? give(n, types.right[t]) : e;
        }

        private int errorInOperation(int n, int t) {
            give(n, t);
            int error = require(program.first[n], Types.INT);
            return error != NONE ? error : require(program.second[n], Types.INT);
        }

        private int errorInChoice(int n) {
            int t = program.type[program.second[n]];
            give(n, t);
            int error = require(program.first[n], Types.BOOL);
            return error != NONE ? error : require(program.third[n], t);
        }
    }

    /** A value is one long: its kind, whether a cast made it, whether it is tagged, and what it carries. */
    private static final class Value {
        // The kinds, each one less than the ground type that it is tagged with.
        static final int NUMBER = 0;
        static final int BOOLEAN = 1;
        static final int FUNCTION = 2;
        static final int CELL = 3;

        private static final long KIND_BITS = 3;
        private static final long CAST_BIT = 4;
        private static final long TAG_BIT = 8;
        private static final int CARRIED_SHIFT = 4;

        private Value() {
        }

        static long of(int kind, int carried) {
            return ((long) carried << CARRIED_SHIFT) | kind;
        }

        static long ofCast(int kind, int made) {
            return ((long) made << CARRIED_SHIFT) | CAST_BIT | kind;
        }

        static int kind(long v) {
            return (int) (v & KIND_BITS);
        }

        static int carried(long v) {
            return (int) (v >> CARRIED_SHIFT);
        }

        static boolean isOfCast(long v) {
            return (v & CAST_BIT) != 0;
        }

        static boolean isTagged(long v) {
            return (v & TAG_BIT) != 0;
        }

        static long tagged(long v) {
            return v | TAG_BIT;
        }

        static long untagged(long v) {
            return v & ~TAG_BIT;
        }

        static int ground(long v) {
            return kind(v) + 1;
        }
    }

    /** Casts values, and keeps the functions and cells that casts make. */
    private static final class Casts {
        private static final int MAX_MADE = 200;
        private static final int OTHER_SIDE = 1;

        private final Types types;
        // A function or cell that a cast made: the one inside it, the two types, and label and side.
        private final long[] inside;
        private final int[] from;
        private final int[] to;
        private final int[] label;
        private final int[] chain;
        private int made;
        // How a cast ended the run: BLAME, NO_ROOM, or RUNNING if none has.
        int ending;
        int blame;

        Casts(Types known) {
            types = known;
            inside = new long[MAX_MADE];
            from = new int[MAX_MADE];
            to = new int[MAX_MADE];
            label = new int[MAX_MADE];
            chain = new int[MAX_MADE];
            made = 0;
            ending = Machine.RUNNING;
            blame = NONE;
        }

        void start() {
            made = 0;
            ending = Machine.RUNNING;
            blame = NONE;
        }

        /** The value v cast from t to u; p is the label twice, and 1 on the other side. */
        long cast(long v, int t, int u, int p) {
            if (t == u) {
                return v;
            }
            if (u == Types.OPEN) {
                return Value.tagged(around(v, t, types.ground(t), p));
            }
            if (t != Types.OPEN) {
                return around(v, t, u, p);
            }
            int ground = Value.ground(v);
            if (ground != types.ground(u)) {
                ending = Machine.BLAME;
                blame = p;
                return v;
            }
            return around(Value.untagged(v), ground, u, p);
        }

        /** The cast between two types of the same shape, which only makes something if they differ. */
        private long around(long v, int t, int u, int p) {
            if (t == u) {
                return v;
            }
            if (made >= MAX_MADE) {
                ending = Machine.NO_ROOM;
                return v;
            }
            inside[made] = v;
            from[made] = t;
            to[made] = u;
            label[made] = p;
            made++;
            return Value.ofCast(Value.kind(v), made - 1);
        }

        /** What is inside all casts around a function or a cell. */
        long core(long wrapped) {
            long v = wrapped;
            for (int i = 0; i < MAX_MADE && Value.isOfCast(v); i++) {
                v = inside[Value.carried(v)];
            }
            return v;
        }

        /** What becomes of an argument or a written value on its way in: the outermost casts it first. */
        long inward(long wrapped, long given) {
            long around = wrapped;
            long v = given;
            for (int i = 0; i < MAX_MADE && ending == Machine.RUNNING && Value.isOfCast(around); i++) {
                int w = Value.carried(around);
                v = cast(v, types.left[to[w]], types.left[from[w]], label[w] ^ OTHER_SIDE);
                around = inside[w];
            }
            return v;
        }

        /** What becomes of a function's value or a cell's content on its way out: the innermost casts it first. */
        long outward(long wrapped, long given) {
            int length = 0;
            long around = wrapped;
            while (length < MAX_MADE && Value.isOfCast(around)) {
                chain[length] = Value.carried(around);
                around = inside[chain[length]];
                length++;
            }
            long v = given;
            for (int i = length - 1; i >= 0 && ending == Machine.RUNNING; i--) {
                int w = chain[i];
                v = cast(v, types.right[from[w]], types.right[to[w]], label[w]);
            }
            return v;
        }
    }

    /** What a run put out: how many, and the latest of them. */
    private static final class Outputs {
        private static final int KEPT = 16;

        private final int[] ring;
        int count;

        Outputs() {
            ring = new int[KEPT];
            count = 0;
        }

        void clear() {
            count = 0;
        }

        void put(int number) {
            ring[count & (KEPT - 1)] = number;
            count++;
        }

        int back(int k) {
            if (k < 0 || k >= KEPT || k >= count) {
                return 0;
            }
            return ring[(count - 1 - k) & (KEPT - 1)];
        }
    }

    /** Runs a program, with rows in place of recursion, since calls may stand in calls. */
    private static final class Machine {
        // How a run ended; the first four as the document counts them.
        static final int VALUE = 1;
        static final int BLAME = 2;
        static final int NO_FUEL = 3;
        static final int NO_ROOM = 4;
        static final int NOT_RUN = 5;
        static final int RUNNING = 6;

        private static final int MAX_CELLS = 40;
        // Scope 0 has no variable; each call makes one more.
        private static final int MAX_SCOPES = MAX_FUEL + 1;
        // The whole and each called body have at most twenty expressions around one another.
        private static final int MAX_FRAMES = MAX_SCOPES * Reader.MAX_DEPTH;
        // Far above what can be needed: some five steps for each expression of the whole and of each called body.
        private static final int MAX_STEPS = 1000000;

        private final Program program;
        final Casts casts;
        final Outputs outputs;
        // The expressions that wait for a part: each one's scope, and the value of its first part.
        private final int[] frameNode;
        private final int[] frameScope;
        private final long[] frameValue;
        private int frames;
        private final int[] scopeAround;
        private final long[] scopeValue;
        private final long[] cells;
        int cellCount;
        int callCount;
        int ending;
        private int fuel;
        // The expression that is to be worked out or, if it has given its value, that has been.
        private int node;
        private int scope;
        private boolean given;
        private long value;

        Machine(Program toRun) {
            program = toRun;
            casts = new Casts(toRun.types);
            outputs = new Outputs();
            frameNode = new int[MAX_FRAMES];
            frameScope = new int[MAX_FRAMES];
            frameValue = new long[MAX_FRAMES];
            scopeAround = new int[MAX_SCOPES];
            scopeValue = new long[MAX_SCOPES];
            cells = new long[MAX_CELLS];
            ending = NOT_RUN;
        }

        /** As before any run. */
        void forget() {
            outputs.clear();
            cellCount = 0;
            callCount = 0;
            ending = NOT_RUN;
        }

        int execute(int most) {
            start(most);
            for (int step = 0; step < MAX_STEPS && ending == RUNNING; step++) {
                if (!given) {
                    enter();
                } else if (frames == 0) {
                    ending = VALUE;
                } else if (program.parent[node] != frameNode[frames - 1]) {
                    // No part of what waits: the body of the function that this has called.
                    leaveBody();
                } else if (castPart()) {
                    if (node == program.first[frameNode[frames - 1]]) {
                        goOnBehindFirst();
                    } else {
                        goOnBehindLast();
                    }
                }
                if (casts.ending != RUNNING) {
                    ending = casts.ending;
                }
            }
            if (ending == RUNNING) {
                ending = NO_ROOM;
            }
            return ending;
        }

        private void start(int most) {
            forget();
            casts.start();
            fuel = most;
            frames = 0;
            node = Program.ROOT;
            scope = 0;
            given = false;
            ending = RUNNING;
        }

        int partOfResult(int what) {
            if (ending != VALUE) {
                return NONE;
            }
            int kind = Value.kind(value);
            switch (what) {
                case 0:
                    return kind;
                case 1:
                    return kind == Value.NUMBER || kind == Value.BOOLEAN ? Value.carried(value) : 0;
                case 2:
                    return Value.isTagged(value) ? 1 : 0;
                default:
                    return NONE;
            }
        }

        private void enter() {
            switch (program.form[node]) {
                case Program.NUMBER:
                    give(Value.of(Value.NUMBER, program.number[node]));
                    break;
                case Program.BOOLEAN:
                    give(Value.of(Value.BOOLEAN, program.number[node]));
                    break;
                case Program.VARIABLE:
                    give(variable(program.between[node]));
                    break;
                case Program.FUNCTION:
                    give(Value.of(Value.FUNCTION, node * MAX_SCOPES + scope));
                    break;
                default:
                    waitForFirst();
            }
        }

        private void give(long v) {
            value = v;
            given = true;
        }

        private long variable(int between) {
            int around = scope;
            for (int i = 0; i < between; i++) {
                around = scopeAround[around];
            }
            return scopeValue[around];
        }

        private void waitForFirst() {
            if (frames >= MAX_FRAMES) {
                ending = NO_ROOM;
                return;
            }
            frameNode[frames] = node;
            frameScope[frames] = scope;
            frames++;
            node = program.first[node];
        }

        private void leaveBody() {
            scope = frameScope[frames - 1];
            finish(casts.outward(frameValue[frames - 1], value));
        }

        /** Casts the value of a part as what waits for it says; false if that ends the run. */
        private boolean castPart() {
            value = casts.cast(value, program.type[node], program.castType[node], 2 * frameNode[frames - 1]);
            return casts.ending == RUNNING;
        }

        /** Goes on with what waits, its first part having given the value. */
        private void goOnBehindFirst() {
            int waiting = frameNode[frames - 1];
            switch (program.form[waiting]) {
                case Program.CHOICE:
                    workOut(Value.carried(value) != 0 ? program.second[waiting] : program.third[waiting]);
                    break;
                case Program.NEW_CELL:
                    makeCell();
                    break;
                case Program.READ:
                    finish(casts.outward(value, cells[Value.carried(casts.core(value))]));
                    break;
                case Program.CAST:
                    finish(value);
                    break;
                case Program.OUTPUT:
                    outputs.put(Value.carried(value));
                    finish(value);
                    break;
                default:
                    frameValue[frames - 1] = value;
                    workOut(program.second[waiting]);
            }
        }

        /** Goes on with what waits, the last part that it needs having given the value. */
        private void goOnBehindLast() {
            long firstValue = frameValue[frames - 1];
            int left = Value.carried(firstValue);
            int right = Value.carried(value);
            switch (program.form[frameNode[frames - 1]]) {
                case Program.CALL:
                    callFunction(firstValue);
                    break;
                case Program.WRITE:
                    writeCell(firstValue);
                    break;
                case Program.SUM:
                    finish(Value.of(Value.NUMBER, left + right));
                    break;
                case Program.DIFFERENCE:
                    finish(Value.of(Value.NUMBER, left - right));
                    break;
                case Program.LESS:
                    finish(Value.of(Value.BOOLEAN, left < right ? 1 : 0));
                    break;
                default:
                    finish(value);
            }
        }

        private void workOut(int part) {
            node = part;
            given = false;
        }

        /** The expression that waited has the value v. */
        private void finish(long v) {
            frames--;
            node = frameNode[frames];
            give(v);
        }

        private void makeCell() {
            if (cellCount >= MAX_CELLS) {
                ending = NO_ROOM;
                return;
            }
            cells[cellCount] = value;
            cellCount++;
            finish(Value.of(Value.CELL, cellCount - 1));
        }

        private void writeCell(long cell) {
            long written = casts.inward(cell, value);
            if (casts.ending != RUNNING) {
                return;
            }
            cells[Value.carried(casts.core(cell))] = written;
            finish(value);
        }

        private void callFunction(long function) {
            long argument = casts.inward(function, value);
            if (casts.ending != RUNNING) {
                return;
            }
            if (callCount >= fuel) {
                ending = NO_FUEL;
                return;
            }
            int called = Value.carried(casts.core(function));
            callCount++;
            scopeAround[callCount] = called % MAX_SCOPES;
            scopeValue[callCount] = argument;
            scope = callCount;
            workOut(program.first[called / MAX_SCOPES]);
        }
    }
}
