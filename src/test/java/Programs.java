/** Names for the instructions, and machines that hold a program given as instruction, x, instruction, x, .. */
final class Programs {
    static final int NULL = 0;
    static final int FALSE = 1;
    static final int TRUE = 2;
    static final int INTEGER = 3;
    static final int STACK = 4;
    static final int GLOBAL = 5;
    static final int FIELD = 6;
    static final int AT = 7;
    static final int SIZE = 8;
    static final int SET_STACK = 9;
    static final int SET_GLOBAL = 10;
    static final int SET_FIELD = 11;
    static final int SET_AT = 12;
    static final int PUSH = 13;
    static final int POP = 14;
    static final int GO = 15;
    static final int IF = 16;
    static final int UNLESS = 17;
    static final int SAME = 18;
    static final int LESS = 19;
    static final int ADD = 20;
    static final int SUB = 21;
    static final int MUL = 22;
    static final int DIV = 23;
    static final int MOD = 24;
    static final int NOT = 25;
    static final int SORT = 26;
    static final int OBJECT = 27;
    static final int ARRAY = 28;
    static final int FUNCTION = 29;
    static final int CALL = 30;
    static final int RETURN = 31;
    static final int TRAP = 32;
    static final int UNTRAP = 33;
    static final int THROW = 34;

    private Programs() {
    }

    static ValueMachine loaded(int... program) {
        ValueMachine machine = new ValueMachine();
        add(machine, program);
        return machine;
    }

    static ValueMachine ran(int... program) {
        ValueMachine machine = loaded(program);
        machine.run(20000);
        return machine;
    }

    static void add(ValueMachine machine, int... program) {
        for (int k = 0; k + 1 < program.length; k += 2) {
            machine.code(program[k], program[k + 1]);
        }
    }

    /** Looks at a value: its sort and its value() must be these. */
    static void dueAt(String what, ValueMachine machine, int where, int k, int sort, int value) {
        Check.due(what + ": the sort", machine.look(where, k), sort);
        Check.due(what + ": the value", machine.value(), value);
    }

    static void dueResult(String what, ValueMachine machine, int sort, int value) {
        dueAt(what, machine, 0, 0, sort, value);
    }

    static void dueStop(String what, ValueMachine machine, int fault, int at) {
        Check.due(what + ": the state", machine.state(), 2);
        dueAt(what + ": what stopped it", machine, 3, 0, 3, fault);
        Check.due(what + ": the one that comes next", machine.count(1), at);
    }
}
