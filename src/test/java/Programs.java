/** Machines that hold a program given as instruction, x, instruction, x, .. */
final class Programs implements Instructions {
    private Programs() {
    }

    static ValueMachine loaded(int... program) {
        ValueMachine machine = new ValueMachine();
        add(machine, program);
        return machine;
    }

    static ValueMachine ran(int... program) {
        ValueMachine machine = loaded(program);
        machine.run(20000);
        return machine;
    }

    static void add(ValueMachine machine, int... program) {
        for (int k = 0; k + 1 < program.length; k += 2) {
            machine.code(program[k], program[k + 1]);
        }
    }

    /** Looks at a value: its sort and its value() must be these. */
    static void dueAt(String what, ValueMachine machine, int where, int k, int sort, int value) {
        Check.due(what + ": the sort", machine.look(where, k), sort);
        Check.due(what + ": the value", machine.value(), value);
    }

    static void dueResult(String what, ValueMachine machine, int sort, int value) {
        dueAt(what, machine, 0, 0, sort, value);
    }

    static void dueStop(String what, ValueMachine machine, int fault, int at) {
        Check.due(what + ": the state", machine.state(), 2);
        dueAt(what + ": what stopped it", machine, 3, 0, 3, fault);
        Check.due(what + ": the one that comes next", machine.count(1), at);
    }
}
