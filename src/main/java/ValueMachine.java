/**
 * A machine for programs with values of many sorts, with an accumulator, a stack, globals,
 * traps for what goes wrong and a store of things that is swept when it is full.
 *
 * All rows are made with the object and used again, so that no run makes anything new.
 */
public final class ValueMachine {
    public static final int NONE = -1;

    private static final int MOST_STEPS = 20000;
    private static final int GLOBALS = 8;

    private static final int GOES_ON = 0;
    private static final int DONE = 1;
    private static final int STOPPED = 2;

    private final Code program = new Code();
    private final ValueStack stack = new ValueStack();
    private final Notes notes = new Notes();
    private final Store store = new Store();
    private final long[] globals = new long[GLOBALS];
    private long accumulator = Value.NULL;
    private long lookedAt = Value.NULL;
    private long stoppedBy = Value.NULL;
    private boolean stopped = false;
    private int next = 0;
    private int stepsDone = 0;
    private int timesWrong = 0;

    public ValueMachine() {
    }

    public int code(int instruction, int x) throws IllegalArgumentException {
        if (instruction < 0 || instruction > Op.LAST) {
            throw new IllegalArgumentException("there is no such instruction");
        }
        return program.append(instruction, x) ? program.size : NONE;
    }

    public void clear() {
        program.size = 0;
        begin();
    }

    public void reset() {
        begin();
    }

    public int run(int n) throws IllegalArgumentException {
        if (n < 0 || n > MOST_STEPS) {
            throw new IllegalArgumentException("0 to 20000 instructions can be done");
        }
        lookedAt = Value.NULL;
        int steps = 0;
        while (steps < n && state() == GOES_ON) {
            int at = next;
            next = at + 1;
            int fault = perform(program.instructionAt(at), program.numberAt(at));
            if (fault != Fault.NOTHING) {
                goWrong(at, fault == Fault.THROWN ? accumulator : Value.integer(fault));
            }
            steps++;
        }
        stepsDone += steps;
        return steps;
    }

    public int state() {
        if (stopped) {
            return STOPPED;
        }
        return next < program.size ? GOES_ON : DONE;
    }

    public int look(int where, int k) {
        switch (where) {
            case 0: return choose(accumulator);
            case 1: return stack.reaches(k) ? choose(stack.at(k)) : NONE;
            case 2: return isGlobal(k) ? choose(globals[k]) : NONE;
            case 3: return stopped ? choose(stoppedBy) : NONE;
            default: return NONE;
        }
    }

    public int into(int k) {
        if (!Value.isThing(lookedAt) || !store.hasPart(lookedAt, k)) {
            return NONE;
        }
        return choose(store.part(lookedAt, k));
    }

    public int value() {
        switch (Value.sortOf(lookedAt)) {
            case Value.INTEGER:
            case Value.FUNCTION: return Value.numberOf(lookedAt);
            case Value.ARRAY: return store.sizeOf(lookedAt);
            default: return 0;
        }
    }

    public boolean isSame() {
        return lookedAt == accumulator;
    }

    public int count(int what) {
        switch (what) {
            case 0: return program.size;
            case 1: return next;
            case 2: return stack.height;
            case 3: return notes.size;
            case 4: return store.things;
            case 5: return store.made;
            case 6: return store.sweeps;
            case 7: return stepsDone;
            case 8: return timesWrong;
            default: return NONE;
        }
    }

    private void begin() {
        stack.height = 0;
        notes.size = 0;
        store.empty();
        for (int k = 0; k < GLOBALS; k++) {
            globals[k] = Value.NULL;
        }
        accumulator = Value.NULL;
        lookedAt = Value.NULL;
        stoppedBy = Value.NULL;
        stopped = false;
        next = 0;
        stepsDone = 0;
        timesWrong = 0;
    }

    private int choose(long value) {
        lookedAt = value;
        return Value.sortOf(value);
    }

    private void goWrong(int at, long what) {
        timesWrong++;
        int trap = notes.latestTrap();
        if (trap == NONE) {
            next = at;
            stopped = true;
            stoppedBy = what;
            return;
        }
        next = notes.placeOf(trap);
        stack.height = Math.min(stack.height, notes.heightOf(trap));
        notes.size = trap;
        accumulator = what;
    }

    /** Each instruction looks for all that can go wrong before it changes anything, and answers what did. */
    private int perform(int instruction, int x) {
        switch (instruction) {
            case Op.NULL: return accept(Value.NULL);
            case Op.FALSE: return accept(Value.FALSE);
            case Op.TRUE: return accept(Value.TRUE);
            case Op.INTEGER: return accept(Value.integer(x));
            case Op.STACK: return takeStack(x);
            case Op.GLOBAL: return takeGlobal(x);
            case Op.FIELD: return takeField(x);
            case Op.AT: return takeElement();
            case Op.SIZE: return takeSize();
            case Op.SET_STACK: return setStack(x);
            case Op.SET_GLOBAL: return setGlobal(x);
            case Op.SET_FIELD: return setField(x);
            case Op.SET_AT: return setElement();
            case Op.PUSH: return push();
            case Op.POP: return pop(x);
            case Op.GO: return goIf(true, x);
            case Op.IF: return goIf(accumulator == Value.TRUE, x);
            case Op.UNLESS: return goIf(accumulator != Value.TRUE, x);
            case Op.SAME: return compareSame();
            case Op.LESS: return compareLess();
            case Op.ADD:
            case Op.SUB:
            case Op.MUL: return calculate(instruction);
            case Op.DIV:
            case Op.MOD: return divide(instruction);
            case Op.NOT: return accept(Value.truth(accumulator != Value.TRUE));
            case Op.SORT: return accept(Value.integer(Value.sortOf(accumulator)));
            case Op.OBJECT: return makeObject();
            case Op.ARRAY: return makeArray(x);
            case Op.FUNCTION: return makeFunction(x);
            case Op.CALL: return callFunction(x);
            case Op.RETURN: return returnFromCall(x);
            case Op.TRAP: return noteTrap(x);
            case Op.UNTRAP: return dropTrap();
            case Op.THROW:
            default: return Fault.THROWN;
        }
    }

    private int accept(long value) {
        accumulator = value;
        return Fault.NOTHING;
    }

    private int acceptForTop(long value) {
        stack.drop(1);
        return accept(value);
    }

    private int takeStack(int x) {
        return stack.reaches(x) ? accept(stack.at(x)) : Fault.TOO_FEW;
    }

    private int takeGlobal(int x) {
        return isGlobal(x) ? accept(globals[x]) : Fault.NOT_THERE;
    }

    private int takeField(int x) {
        if (Value.sortOf(accumulator) != Value.OBJECT) {
            return Fault.SORT;
        }
        return store.hasPart(accumulator, x) ? accept(store.part(accumulator, x)) : Fault.NOT_THERE;
    }

    private int takeElement() {
        if (!stack.holds(1)) {
            return Fault.TOO_FEW;
        }
        long array = stack.at(0);
        int fault = elementFault(array, accumulator);
        if (fault != Fault.NOTHING) {
            return fault;
        }
        return acceptForTop(store.part(array, Value.numberOf(accumulator)));
    }

    private int takeSize() {
        if (Value.sortOf(accumulator) != Value.ARRAY) {
            return Fault.SORT;
        }
        return accept(Value.integer(store.sizeOf(accumulator)));
    }

    private int setStack(int x) {
        if (!stack.reaches(x)) {
            return Fault.TOO_FEW;
        }
        stack.set(x, accumulator);
        return Fault.NOTHING;
    }

    private int setGlobal(int x) {
        if (!isGlobal(x)) {
            return Fault.NOT_THERE;
        }
        globals[x] = accumulator;
        return Fault.NOTHING;
    }

    private int setField(int x) {
        if (!stack.holds(1)) {
            return Fault.TOO_FEW;
        }
        long object = stack.at(0);
        if (Value.sortOf(object) != Value.OBJECT) {
            return Fault.SORT;
        }
        if (!store.hasPart(object, x)) {
            return Fault.NOT_THERE;
        }
        store.setPart(object, x, accumulator);
        stack.drop(1);
        return Fault.NOTHING;
    }

    private int setElement() {
        if (!stack.holds(2)) {
            return Fault.TOO_FEW;
        }
        long array = stack.at(1);
        long index = stack.at(0);
        int fault = elementFault(array, index);
        if (fault != Fault.NOTHING) {
            return fault;
        }
        store.setPart(array, Value.numberOf(index), accumulator);
        stack.drop(2);
        return Fault.NOTHING;
    }

    private int elementFault(long array, long index) {
        if (Value.sortOf(array) != Value.ARRAY || Value.sortOf(index) != Value.INTEGER) {
            return Fault.SORT;
        }
        return store.hasPart(array, Value.numberOf(index)) ? Fault.NOTHING : Fault.NO_ELEMENT;
    }

    private int push() {
        if (stack.isFull()) {
            return Fault.FULL;
        }
        stack.push(accumulator);
        return Fault.NOTHING;
    }

    private int pop(int x) {
        if (!stack.holds(x)) {
            return Fault.TOO_FEW;
        }
        stack.drop(x);
        return Fault.NOTHING;
    }

    private int goIf(boolean goes, int place) {
        if (!program.hasPlace(place)) {
            return Fault.NOT_THERE;
        }
        if (goes) {
            next = place;
        }
        return Fault.NOTHING;
    }

    private int compareSame() {
        return stack.holds(1) ? acceptForTop(Value.truth(stack.at(0) == accumulator)) : Fault.TOO_FEW;
    }

    private int compareLess() {
        int fault = integersFault();
        if (fault != Fault.NOTHING) {
            return fault;
        }
        return acceptForTop(Value.truth(Value.numberOf(stack.at(0)) < Value.numberOf(accumulator)));
    }

    private int calculate(int instruction) {
        int fault = integersFault();
        if (fault != Fault.NOTHING) {
            return fault;
        }
        int left = Value.numberOf(stack.at(0));
        int right = Value.numberOf(accumulator);
        switch (instruction) {
            case Op.ADD: return acceptForTop(Value.integer(left + right));
            case Op.SUB: return acceptForTop(Value.integer(left - right));
            default: return acceptForTop(Value.integer(left * right));
        }
    }

    private int divide(int instruction) {
        int fault = integersFault();
        if (fault != Fault.NOTHING) {
            return fault;
        }
        int left = Value.numberOf(stack.at(0));
        int right = Value.numberOf(accumulator);
        if (right == 0) {
            return Fault.BY_ZERO;
        }
        return acceptForTop(Value.integer(instruction == Op.DIV ? left / right : left % right));
    }

    private int integersFault() {
        if (!stack.holds(1)) {
            return Fault.TOO_FEW;
        }
        boolean both = Value.sortOf(stack.at(0)) == Value.INTEGER && Value.sortOf(accumulator) == Value.INTEGER;
        return both ? Fault.NOTHING : Fault.SORT;
    }

    private int makeObject() {
        sweepIfFull();
        if (store.isFull()) {
            return Fault.NO_ROOM;
        }
        return accept(store.make(Value.OBJECT, Store.FIELDS));
    }

    private int makeArray(int x) {
        if (!stack.holds(x)) {
            return Fault.TOO_FEW;
        }
        if (x > Store.MOST_ELEMENTS) {
            return Fault.NO_ELEMENT;
        }
        sweepIfFull();
        if (store.isFull()) {
            return Fault.NO_ROOM;
        }
        long array = store.make(Value.ARRAY, x);
        for (int k = 0; k < x; k++) {
            store.setPart(array, k, stack.at(x - 1 - k));
        }
        stack.drop(x);
        return accept(array);
    }

    private void sweepIfFull() {
        if (!store.isFull()) {
            return;
        }
        store.beginSweep();
        store.reach(accumulator);
        for (int k = 0; k < stack.height; k++) {
            store.reach(stack.at(k));
        }
        for (int k = 0; k < GLOBALS; k++) {
            store.reach(globals[k]);
        }
        store.endSweep();
    }

    private int makeFunction(int x) {
        if (x < 0 || !program.hasPlace(x / Value.NUMBERS)) {
            return Fault.NOT_THERE;
        }
        return accept(Value.of(Value.FUNCTION, x));
    }

    private int callFunction(int x) {
        if (!stack.holds(x)) {
            return Fault.TOO_FEW;
        }
        int function = Value.numberOf(accumulator);
        if (Value.sortOf(accumulator) != Value.FUNCTION || function % Value.NUMBERS != x) {
            return Fault.SORT;
        }
        if (notes.isFull()) {
            return Fault.FULL;
        }
        notes.addCall(next);
        next = function / Value.NUMBERS;
        return Fault.NOTHING;
    }

    private int returnFromCall(int x) {
        if (!stack.holds(x)) {
            return Fault.TOO_FEW;
        }
        if (!notes.endWithCall()) {
            return Fault.NO_NOTE;
        }
        stack.drop(x);
        notes.size--;
        next = notes.placeOf(notes.size);
        return Fault.NOTHING;
    }

    private int noteTrap(int x) {
        if (notes.isFull()) {
            return Fault.FULL;
        }
        if (!program.hasPlace(x)) {
            return Fault.NOT_THERE;
        }
        notes.addTrap(x, stack.height);
        return Fault.NOTHING;
    }

    private int dropTrap() {
        if (!notes.endWithTrap()) {
            return Fault.NO_NOTE;
        }
        notes.size--;
        return Fault.NOTHING;
    }

    private static boolean isGlobal(int k) {
        return k >= 0 && k < GLOBALS;
    }

    /** The instructions' numbers. */
    private static final class Op {
        static final int NULL = 0;
        static final int FALSE = 1;
        static final int TRUE = 2;
        static final int INTEGER = 3;
        static final int STACK = 4;
        static final int GLOBAL = 5;
        static final int FIELD = 6;
        static final int AT = 7;
        static final int SIZE = 8;
        static final int SET_STACK = 9;
        static final int SET_GLOBAL = 10;
        static final int SET_FIELD = 11;
        static final int SET_AT = 12;
        static final int PUSH = 13;
        static final int POP = 14;
        static final int GO = 15;
        static final int IF = 16;
        static final int UNLESS = 17;
        static final int SAME = 18;
        static final int LESS = 19;
        static final int ADD = 20;
        static final int SUB = 21;
        static final int MUL = 22;
        static final int DIV = 23;
        static final int MOD = 24;
        static final int NOT = 25;
        static final int SORT = 26;
        static final int OBJECT = 27;
        static final int ARRAY = 28;
        static final int FUNCTION = 29;
        static final int CALL = 30;
        static final int RETURN = 31;
        static final int TRAP = 32;
        static final int UNTRAP = 33;
        static final int THROW = 34;
        static final int LAST = THROW;
    }

    /** What goes wrong: 1 to 8 are the integers that the program gets. */
    private static final class Fault {
        static final int NOTHING = 0;
        static final int SORT = 1;
        static final int NO_ELEMENT = 2;
        static final int TOO_FEW = 3;
        static final int FULL = 4;
        static final int BY_ZERO = 5;
        static final int NO_ROOM = 6;
        static final int NO_NOTE = 7;
        static final int NOT_THERE = 8;
        static final int THROWN = 9;
    }

    /**
     * A value is one long, its sort above its number, so that two values are the same when the
     * longs are equal, and rows of new values are NULL. The number of a thing is its row in the
     * store, that of a function its place * 8 and its number.
     */
    private static final class Value {
        static final int INTEGER = 3;
        static final int OBJECT = 4;
        static final int ARRAY = 5;
        static final int FUNCTION = 6;

        static final long NULL = 0L;
        static final long FALSE = 1L << 32;
        static final long TRUE = 2L << 32;

        static final int NUMBERS = 8;

        static long of(int sort, int number) {
            return ((long) sort << 32) | (number & 0xFFFFFFFFL);
        }

        static long integer(int number) {
            return of(INTEGER, number);
        }

        static long truth(boolean holds) {
            return holds ? TRUE : FALSE;
        }

        static int sortOf(long value) {
            return (int) (value >> 32);
        }

        static int numberOf(long value) {
            return (int) value;
        }

        static boolean isThing(long value) {
            int sort = (int) (value >> 32);
            return sort == OBJECT || sort == ARRAY;
        }
    }

    private static final class Code {
        static final int MOST = 150;

        private final int[] instructions = new int[MOST];
        private final int[] numbers = new int[MOST];
        int size = 0;

        boolean append(int instruction, int x) {
            if (size >= MOST) {
                return false;
            }
            instructions[size] = instruction;
            numbers[size] = x;
            size++;
            return true;
        }

        int instructionAt(int place) {
            return instructions[place];
        }

        int numberAt(int place) {
            return numbers[place];
        }

        /** The end is a place too: the machine is done there, or more code comes. */
        boolean hasPlace(int place) {
            return place >= 0 && place <= size;
        }
    }

    private static final class ValueStack {
        static final int MOST = 120;

        private final long[] values = new long[MOST];
        int height = 0;

        boolean isFull() {
            return height >= MOST;
        }

        boolean holds(int many) {
            return many >= 0 && many <= height;
        }

        boolean reaches(int k) {
            return k >= 0 && k < height;
        }

        long at(int k) {
            return values[height - 1 - k];
        }

        void set(int k, long value) {
            values[height - 1 - k] = value;
        }

        void push(long value) {
            values[height] = value;
            height++;
        }

        void drop(int many) {
            height -= many;
        }
    }

    /** Calls and traps in the order in which they were noted; a call's height is NONE. */
    private static final class Notes {
        static final int MOST = 40;

        private final int[] places = new int[MOST];
        private final int[] heights = new int[MOST];
        int size = 0;

        boolean isFull() {
            return size >= MOST;
        }

        void addCall(int place) {
            add(place, NONE);
        }

        void addTrap(int place, int height) {
            add(place, height);
        }

        private void add(int place, int height) {
            places[size] = place;
            heights[size] = height;
            size++;
        }

        boolean endWithCall() {
            return size > 0 && heights[size - 1] == NONE;
        }

        boolean endWithTrap() {
            return size > 0 && heights[size - 1] != NONE;
        }

        int latestTrap() {
            for (int k = size - 1; k >= 0; k--) {
                if (heights[k] != NONE) {
                    return k;
                }
            }
            return NONE;
        }

        int placeOf(int note) {
            return places[note];
        }

        int heightOf(int note) {
            return heights[note];
        }
    }

    /** The things that there are; a thing's parts are its fields or its elements. */
    private static final class Store {
        static final int MOST = 30;
        static final int FIELDS = 16;
        static final int MOST_ELEMENTS = 20;

        private final long[] parts = new long[MOST * MOST_ELEMENTS];
        private final int[] sizes = new int[MOST];
        private final boolean[] taken = new boolean[MOST];
        private final boolean[] reached = new boolean[MOST];
        private final int[] reachedRows = new int[MOST];
        private int reachedCount = 0;
        int things = 0;
        int made = 0;
        int sweeps = 0;

        void empty() {
            for (int row = 0; row < MOST; row++) {
                taken[row] = false;
            }
            things = 0;
            made = 0;
            sweeps = 0;
        }

        boolean isFull() {
            return things >= MOST;
        }

        long make(int sort, int size) {
            int row = freeRow();
            int first = row * MOST_ELEMENTS;
            // a row that was swept still holds the parts of the thing that went
            for (int k = first; k < first + size; k++) {
                parts[k] = Value.NULL;
            }
            sizes[row] = size;
            taken[row] = true;
            things++;
            made++;
            return Value.of(sort, row);
        }

        private int freeRow() {
            int row = 0;
            while (row < MOST - 1 && taken[row]) {
                row++;
            }
            return row;
        }

        int sizeOf(long thing) {
            return sizes[Value.numberOf(thing)];
        }

        boolean hasPart(long thing, int k) {
            return k >= 0 && k < sizeOf(thing);
        }

        long part(long thing, int k) {
            return parts[Value.numberOf(thing) * MOST_ELEMENTS + k];
        }

        void setPart(long thing, int k, long value) {
            parts[Value.numberOf(thing) * MOST_ELEMENTS + k] = value;
        }

        void beginSweep() {
            sweeps++;
            reachedCount = 0;
            for (int row = 0; row < MOST; row++) {
                reached[row] = false;
            }
        }

        void reach(long value) {
            if (!Value.isThing(value) || reached[Value.numberOf(value)]) {
                return;
            }
            int row = Value.numberOf(value);
            reached[row] = true;
            reachedRows[reachedCount] = row;
            reachedCount++;
        }

        /** Rows reached from here on come behind the others, so that one pass gets to all of them. */
        void endSweep() {
            for (int i = 0; i < reachedCount && i < MOST; i++) {
                int first = reachedRows[i] * MOST_ELEMENTS;
                int end = first + sizes[reachedRows[i]];
                for (int k = first; k < end; k++) {
                    reach(parts[k]);
                }
            }
            for (int row = 0; row < MOST; row++) {
                taken[row] = reached[row];
            }
            things = reachedCount;
        }
    }
}
