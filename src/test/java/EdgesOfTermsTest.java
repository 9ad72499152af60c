/** The bounds that the terms name, sentence by sentence: values, fields, elements, code, stack, globals. */
public final class EdgesOfTermsTest extends Edges {
    public static void main(String[] args) {
        integersOf32Bits();
        sumsGoRound();
        productsGoRound();
        quotientsGoRound();
        fields0To15();
        fieldsAreNullAtFirst();
        elements0To20();
        same();
        sameThing();
        atMost150Instructions();
        atMost120Values();
        globals0To7();
        nullAndEmptyAtFirst();
        beginsAt0();
        doneBehindTheLastOne();
        doneBehindThe150th();
        Check.end();
    }

    // "3 an INTEGER (32 bits, arithmetic goes round)"

    private static void integersOf32Bits() {
        for (int x : of(MIN, MIN + 1, -1, 0, 1, MAX - 1, MAX)) {
            ValueMachine machine = taken("INTEGER", INTEGER, x, PUSH, 0, SET_GLOBAL, 0);
            Programs.dueResult("INTEGER " + x, machine, 3, x);
            Programs.dueAt("on the stack " + x, machine, 1, 0, 3, x);
            Programs.dueAt("in a global " + x, machine, 2, 0, 3, x);
        }
    }

    private static void dueOf(int left, int instruction, int right, int due) {
        ValueMachine machine = taken("two integers", INTEGER, left, PUSH, 0, INTEGER, right, instruction, 0);
        Programs.dueResult(left + ", " + right + " by " + instruction, machine, 3, due);
    }

    private static void sumsGoRound() {
        dueOf(MAX - 1, ADD, 1, MAX);
        dueOf(MAX, ADD, 0, MAX);
        dueOf(MAX, ADD, 1, MIN);
        dueOf(1, ADD, MAX, MIN);
        dueOf(MAX, ADD, MAX, -2);
        dueOf(MIN + 1, ADD, -1, MIN);
        dueOf(MIN, ADD, -1, MAX);
        dueOf(MIN, ADD, MIN, 0);
        dueOf(MAX, ADD, MIN, -1);
        dueOf(MIN + 1, SUB, 1, MIN);
        dueOf(MIN, SUB, 1, MAX);
        dueOf(MAX, SUB, -1, MIN);
        dueOf(-1, SUB, MIN, MAX);
        dueOf(0, SUB, MIN, MIN);
        dueOf(0, SUB, MAX, MIN + 1);
        dueOf(MIN, SUB, MIN, 0);
    }

    private static void productsGoRound() {
        dueOf(46340, MUL, 46340, 2147395600);
        dueOf(46341, MUL, 46341, -2147479015);
        dueOf(32768, MUL, 65535, 2147450880);
        dueOf(32768, MUL, 65536, MIN);
        dueOf(-32768, MUL, 65536, MIN);
        dueOf(65536, MUL, 65536, 0);
        dueOf(MAX, MUL, 2, -2);
        dueOf(MAX, MUL, -1, MIN + 1);
        dueOf(MIN, MUL, -1, MIN);
        dueOf(MIN, MUL, 1, MIN);
        dueOf(MAX, MUL, MAX, 1);
        dueOf(MIN, MUL, MIN, 0);
    }

    private static void quotientsGoRound() {
        dueOf(MIN + 1, DIV, -1, MAX);
        dueOf(MIN, DIV, -1, MIN);
        dueOf(MIN, DIV, 1, MIN);
        dueOf(MAX, DIV, -1, MIN + 1);
        dueOf(MIN, DIV, MIN, 1);
        dueOf(MAX, DIV, MIN, 0);
        dueOf(MIN, DIV, MAX, -1);
        dueOf(MIN + 1, MOD, -1, 0);
        dueOf(MIN, MOD, -1, 0);
        dueOf(MIN, MOD, MAX, -1);
        dueOf(MAX, MOD, MIN, MAX);
    }

    // "Objects have FIELDS 0 .. 15, each with a value (NULL at first)"

    private static void fields0To15() {
        for (int x : of(0, 1, 14, 15)) {
            ValueMachine machine = taken("SET FIELD", OBJECT, 0, PUSH, 0, SET_GLOBAL, 0, INTEGER, 9, SET_FIELD, x);
            for (int k = 0; k < 16; k++) {
                machine.look(2, 0);
                Check.due("SET FIELD " + x + ": field " + k, machine.into(k), k == x ? 3 : 0);
            }
            taken("FIELD", OBJECT, 0, FIELD, x);
        }
        for (int x : of(-1, 16, 17, 19, 20, MIN, MAX)) {
            refused("SET FIELD", 8, OBJECT, 0, PUSH, 0, SET_GLOBAL, 0, SET_FIELD, x);
            refused("FIELD", 8, OBJECT, 0, FIELD, x);
        }
    }

    private static void fieldsAreNullAtFirst() {
        ValueMachine machine = Programs.loaded(OBJECT, 0);
        machine.run(1);
        dueNullFields("a new object", machine);
    }

    private static void dueNullFields(String what, ValueMachine machine) {
        for (int k = 0; k < 16; k++) {
            Check.due(what, machine.look(0, 0), 4);
            Check.due(what + ": field " + k, machine.into(k), 0);
        }
    }

    // "arrays have 0 .. 20 ELEMENTS"

    private static void elements0To20() {
        int[] many = times(21, PUSH, 0);
        for (int x : of(0, 1, 19, 20)) {
            ValueMachine machine = taken("ARRAY", join(many, of(ARRAY, x)));
            Programs.dueResult("ARRAY " + x, machine, 5, x);
            Check.due("ARRAY " + x + ": they go", machine.count(2), 21 - x);
            for (int k = 0; k <= x; k++) {
                machine.look(0, 0);
                Check.due("ARRAY " + x + ": element " + k, machine.into(k), k < x ? 0 : NONE);
            }
        }
        refused("an array of 21", 2, join(many, of(ARRAY, 21)));
        refused("an array of 22", 2, join(many, of(PUSH, 0, ARRAY, 22)));
        refused("an array of 120", 2, join(times(120, PUSH, 0), of(ARRAY, 120)));
        refused("an array of -1", 3, join(many, of(ARRAY, -1)));
    }

    // "two values are the SAME if they have one sort and are the same integer, the same thing, or functions .."

    private static void same() {
        int[] things = of(
            OBJECT, 0, SET_GLOBAL, 0, OBJECT, 0, SET_GLOBAL, 1, ARRAY, 0, SET_GLOBAL, 2, ARRAY, 0, SET_GLOBAL, 3);
        int[][] values = {
            of(NULL, 0), of(FALSE, 0), of(TRUE, 0), of(INTEGER, 0), of(INTEGER, 1), of(INTEGER, 2), of(INTEGER, 8),
            of(INTEGER, -1), of(INTEGER, MIN), of(INTEGER, MAX), of(GLOBAL, 0), of(GLOBAL, 1), of(GLOBAL, 2),
            of(GLOBAL, 3), of(FUNCTION, 0), of(FUNCTION, 1), of(FUNCTION, 7), of(FUNCTION, 8), of(FUNCTION, 15)};
        for (int a = 0; a < values.length; a++) {
            for (int b = 0; b < values.length; b++) {
                int[] program = join(things, values[a], of(PUSH, 0), values[b], of(SAME, 0));
                ValueMachine machine = after(steps(program) - 1, program);
                Check.due("values " + a + " and " + b, machine.count(8), 0);
                machine.look(1, 0);
                Check.holds("isSame of values " + a + " and " + b, machine.isSame() == (a == b));
                machine.run(1);
                Check.due("SAME of values " + a + " and " + b, machine.look(0, 0), a == b ? 2 : 1);
            }
        }
    }

    /** A thing stays the same on its way through a field, an element and the stack, whatever it holds. */
    private static void sameThing() {
        int[] through = of(
            OBJECT, 0, SET_GLOBAL, 0, OBJECT, 0, PUSH, 0, SET_GLOBAL, 1, GLOBAL, 0, SET_FIELD, 15,
            GLOBAL, 1, FIELD, 15, PUSH, 0, ARRAY, 1, PUSH, 0, INTEGER, 0, AT, 0);
        for (int k = 0; k < 2; k++) {
            ValueMachine machine = taken("SAME", join(through, of(PUSH, 0, GLOBAL, k, SAME, 0)));
            Check.due("through field and element: global " + k, machine.look(0, 0), k == 0 ? 2 : 1);
        }
        ValueMachine changed = taken("SAME", of(
            OBJECT, 0, SET_GLOBAL, 0, PUSH, 0, PUSH, 0, INTEGER, 1, SET_FIELD, 0, GLOBAL, 0, SAME, 0));
        Check.due("a thing that has changed is the same", changed.look(0, 0), 2);
    }

    // "CODE is instructions 0, 1, .. (at most 150), each with a number x."

    private static void atMost150Instructions() {
        ValueMachine machine = new ValueMachine();
        for (int k = 1; k <= 149; k++) {
            machine.code(INTEGER, k);
        }
        Check.due("the 150th", machine.code(INTEGER, MIN), 150);
        Check.due("the 151st", machine.code(INTEGER, 7), NONE);
        Check.due("the 152nd", machine.code(INTEGER, 7), NONE);
        Check.due("code when there are 150", machine.count(0), 150);
        Check.due("149 are done", machine.run(149), 149);
        Programs.dueResult("the 149th", machine, 3, 149);
        Check.due("one is left", machine.run(2), 1);
        Programs.dueResult("the 150th", machine, 3, MIN);
        Check.due("none is left", machine.run(1), 0);
    }

    // "a STACK of at most 120 values (S0 is its topmost one, S1 the one below, ..)"

    private static void atMost120Values() {
        int[] filled = join(of(INTEGER, 1, PUSH, 0, NULL, 0), times(118, PUSH, 0), of(INTEGER, 3, PUSH, 0));
        ValueMachine machine = taken("the 120th value", filled);
        Check.due("120 values", machine.count(2), 120);
        Programs.dueAt("S0, the topmost one", machine, 1, 0, 3, 3);
        Programs.dueAt("S1, the one below", machine, 1, 1, 0, 0);
        Programs.dueAt("S119, the lowest one", machine, 1, 119, 3, 1);
        Check.due("S120", machine.look(1, 120), NONE);
        refused("the 121st value", 4, join(filled, of(PUSH, 0)));
        taken("room again for one", join(filled, of(POP, 1, PUSH, 0)));
        refused("room for one alone", 4, join(filled, of(POP, 1, PUSH, 0, PUSH, 0)));
    }

    // "GLOBALS 0 .. 7"

    private static void globals0To7() {
        for (int x = 0; x <= 7; x++) {
            ValueMachine machine = taken("SET GLOBAL", INTEGER, 60 + x, SET_GLOBAL, x, NULL, 0, GLOBAL, x);
            Programs.dueResult("GLOBAL " + x, machine, 3, 60 + x);
            for (int k = 0; k <= 7; k++) {
                Check.due("SET GLOBAL " + x + ": global " + k, machine.look(2, k), k == x ? 3 : 0);
            }
        }
        for (int x : of(-1, 8, 9, MIN, MAX)) {
            refused("SET GLOBAL", 8, TRUE, 0, SET_GLOBAL, x);
            refused("GLOBAL", 8, TRUE, 0, GLOBAL, x);
        }
    }

    // "all NULL and empty at first; it begins at instruction 0"

    private static void nullAndEmptyAtFirst() {
        ValueMachine machine = Programs.loaded(INTEGER, 5);
        Check.due("the accumulator", machine.look(0, 0), 0);
        Check.due("S0", machine.look(1, 0), NONE);
        Check.due("values on the stack", machine.count(2), 0);
        Check.due("notes", machine.count(3), 0);
        Check.due("things", machine.count(4), 0);
        for (int k = 0; k < 8; k++) {
            Check.due("global " + k, machine.look(2, k), 0);
            ValueMachine asked = taken("GLOBAL", TRUE, 0, GLOBAL, k);
            Check.due("GLOBAL " + k, asked.look(0, 0), 0);
        }
        Check.due("the accumulator is pushed", taken("PUSH", PUSH, 0).look(1, 0), 0);
        refused("nothing to pop", 3, POP, 1);
    }

    private static void beginsAt0() {
        ValueMachine machine = Programs.loaded(INTEGER, 5, INTEGER, 6);
        Check.due("it begins", machine.count(1), 0);
        machine.run(1);
        Programs.dueResult("the first one", machine, 3, 5);
        Check.due("the second one is next", machine.count(1), 1);
    }

    // "behind the last one the machine is DONE (as long as no more code comes)"

    private static void doneBehindTheLastOne() {
        ValueMachine machine = new ValueMachine();
        Check.due("no code", machine.state(), 1);
        Check.due("no code: run", machine.run(1), 0);
        for (int k = 1; k <= 3; k++) {
            machine.code(INTEGER, k);
            Check.due("more code", machine.state(), 0);
            Check.due("more code: run", machine.run(20000), 1);
            Check.due("behind the last one", machine.state(), 1);
            Check.due("the one that comes next", machine.count(1), k);
            Programs.dueResult("more code", machine, 3, k);
        }
        for (int instruction : of(GO, IF)) {
            ValueMachine gone = after(2, TRUE, 0, instruction, 3, THROW, 0);
            Check.due("to the end", gone.state(), 1);
            gone.code(FALSE, 0);
            Check.due("to the end, and more code", gone.state(), 0);
            gone.run(1);
            Check.due("to the end, and more code", gone.look(0, 0), 1);
        }
        Check.due("before the last one", after(1, NULL, 0, NULL, 0).state(), 0);
    }

    private static void doneBehindThe150th() {
        ValueMachine machine = taken("150 instructions", times(150, TRUE, 0));
        Check.due("behind the 150th", machine.state(), 1);
        Check.due("the one that comes next", machine.count(1), 150);
        machine.code(NULL, 0);
        Check.due("no more code came", machine.state(), 1);
        Check.due("no more code came: run", machine.run(5), 0);
    }
}
