/** What each of the instructions 0 to 34 does when nothing goes wrong (promise 5, and the terms). */
public final class InstructionsTest {
    public static void main(String[] args) {
        constants();
        stack();
        globals();
        fields();
        elements();
        jumps();
        less();
        arithmetic();
        notAndSort();
        arrays();
        functions();
        callInCall();
        traps();
        trapAcrossCalls();
        factorial();
        Check.end();
    }

    private static void dueInteger(String what, int want, int... program) {
        ValueMachine machine = Programs.ran(program);
        Check.due(what + ": the state", machine.state(), 1);
        Programs.dueResult(what, machine, 3, want);
    }

    private static void constants() {
        Programs.dueResult("NULL", Programs.ran(Programs.TRUE, 0, Programs.NULL, 9), 0, 0);
        Programs.dueResult("FALSE", Programs.ran(Programs.FALSE, -9), 1, 0);
        Programs.dueResult("TRUE", Programs.ran(Programs.TRUE, 9), 2, 0);
        dueInteger("INTEGER", -12345, Programs.INTEGER, -12345);
    }

    private static void stack() {
        int[] three = {
            Programs.INTEGER, 1, Programs.PUSH, 0, Programs.INTEGER, 2, Programs.PUSH, 0,
            Programs.INTEGER, 3, Programs.PUSH, 0};
        for (int x = 0; x < 3; x++) {
            ValueMachine machine = Programs.ran(three);
            Programs.add(machine, Programs.STACK, x);
            machine.run(1);
            Programs.dueResult("STACK " + x, machine, 3, 3 - x);
            Check.due("STACK " + x + " leaves the stack", machine.count(2), 3);
            Programs.add(machine, Programs.INTEGER, 50, Programs.SET_STACK, x);
            machine.run(2);
            for (int k = 0; k < 3; k++) {
                Programs.dueAt("SET STACK " + x + ": S" + k, machine, 1, k, 3, k == x ? 50 : 3 - k);
            }
            Programs.dueResult("SET STACK " + x + " leaves the accumulator", machine, 3, 50);
        }
        for (int x = 0; x <= 3; x++) {
            ValueMachine machine = Programs.ran(three);
            Programs.add(machine, Programs.POP, x);
            machine.run(1);
            Check.due("POP " + x, machine.count(2), 3 - x);
            Programs.dueResult("POP " + x + " leaves the accumulator", machine, 3, 3);
            if (x < 3) {
                Programs.dueAt("POP " + x + ": S0", machine, 1, 0, 3, 3 - x);
            }
        }
        Programs.dueResult("PUSH leaves the accumulator", Programs.ran(Programs.TRUE, 0, Programs.PUSH, 0), 2, 0);
    }

    private static void globals() {
        ValueMachine machine = new ValueMachine();
        for (int k = 0; k < 8; k++) {
            Programs.add(machine, Programs.INTEGER, 100 + k, Programs.SET_GLOBAL, k);
        }
        machine.run(100);
        Programs.dueResult("SET GLOBAL leaves the accumulator", machine, 3, 107);
        for (int k = 0; k < 8; k++) {
            Programs.add(machine, Programs.GLOBAL, k);
            machine.run(1);
            Programs.dueResult("GLOBAL " + k, machine, 3, 100 + k);
        }
    }

    private static void fields() {
        ValueMachine machine = Programs.ran(Programs.OBJECT, 0, Programs.SET_GLOBAL, 0);
        for (int k = 0; k < 16; k++) {
            Programs.add(machine, Programs.GLOBAL, 0, Programs.PUSH, 0, Programs.INTEGER, 200 + k, Programs.SET_FIELD, k);
        }
        machine.run(1000);
        Check.due("SET FIELD: S0 goes", machine.count(2), 0);
        Programs.dueResult("SET FIELD leaves the accumulator", machine, 3, 215);
        for (int k = 0; k < 16; k++) {
            Programs.add(machine, Programs.GLOBAL, 0, Programs.FIELD, k);
            machine.run(2);
            Programs.dueResult("FIELD " + k, machine, 3, 200 + k);
        }
        ValueMachine other = Programs.ran(
            Programs.OBJECT, 0, Programs.PUSH, 0, Programs.OBJECT, 0, Programs.PUSH, 0, Programs.INTEGER, 4,
            Programs.SET_FIELD, 2, Programs.STACK, 0, Programs.FIELD, 2);
        Programs.dueResult("another object keeps its fields", other, 0, 0);
    }

    private static void elements() {
        int[] array = {
            Programs.INTEGER, 11, Programs.PUSH, 0, Programs.INTEGER, 22, Programs.PUSH, 0,
            Programs.INTEGER, 33, Programs.PUSH, 0, Programs.ARRAY, 3, Programs.SET_GLOBAL, 0};
        for (int k = 0; k < 3; k++) {
            ValueMachine machine = Programs.ran(array);
            Programs.add(machine, Programs.TRUE, 0, Programs.PUSH, 0, Programs.GLOBAL, 0, Programs.PUSH, 0,
                Programs.INTEGER, k, Programs.AT, 0);
            machine.run(100);
            Programs.dueResult("AT " + k, machine, 3, 11 * (k + 1));
            Check.due("AT: S0 alone goes", machine.count(2), 1);
            Programs.add(machine, Programs.GLOBAL, 0, Programs.PUSH, 0, Programs.INTEGER, k, Programs.PUSH, 0,
                Programs.INTEGER, 99, Programs.SET_AT, 0);
            machine.run(100);
            Check.due("SET AT: two go", machine.count(2), 1);
            Programs.dueAt("SET AT: the value below stays", machine, 1, 0, 2, 0);
            Programs.dueResult("SET AT leaves the accumulator", machine, 3, 99);
            for (int j = 0; j < 3; j++) {
                machine.look(2, 0);
                machine.into(j);
                Check.due("SET AT " + k + ": element " + j, machine.value(), j == k ? 99 : 11 * (j + 1));
            }
        }
        ValueMachine size = Programs.ran(array);
        Programs.add(size, Programs.PUSH, 0, Programs.SIZE, 0);
        size.run(2);
        Programs.dueResult("SIZE", size, 3, 3);
        Check.due("SIZE leaves the stack", size.count(2), 1);
        dueInteger("SIZE of an empty array", 0, Programs.ARRAY, 0, Programs.SIZE, 0);
    }

    private static void jumps() {
        int[][] values = {
            {Programs.NULL, 0}, {Programs.FALSE, 0}, {Programs.TRUE, 0}, {Programs.INTEGER, 1}, {Programs.INTEGER, 2},
            {Programs.OBJECT, 0}, {Programs.ARRAY, 0}, {Programs.FUNCTION, 0}};
        for (int k = 0; k < values.length; k++) {
            boolean isTrue = k == 2;
            for (int jump = Programs.GO; jump <= Programs.UNLESS; jump++) {
                boolean goes = jump == Programs.GO || (jump == Programs.IF) == isTrue;
                ValueMachine machine = Programs.loaded(values[k][0], values[k][1], jump, 3, Programs.NULL, 0);
                machine.run(2);
                Check.due("jump " + jump + " of value " + k, machine.count(1), goes ? 3 : 2);
            }
        }
        ValueMachine back = Programs.loaded(Programs.NULL, 0, Programs.GO, 0);
        Check.due("GO back", back.run(7), 7);
        Check.due("GO back", back.count(1), 1);
        ValueMachine self = Programs.loaded(Programs.GO, 0);
        Check.due("GO to itself", self.run(20000), 20000);
    }

    private static void less() {
        int[] numbers = {Integer.MIN_VALUE, -2, -1, 0, 1, 2, Integer.MAX_VALUE};
        for (int a : numbers) {
            for (int b : numbers) {
                ValueMachine machine = Programs.ran(
                    Programs.INTEGER, a, Programs.PUSH, 0, Programs.INTEGER, b, Programs.LESS, 0);
                Check.due(a + " LESS " + b, machine.look(0, 0), a < b ? 2 : 1);
                Check.due("LESS: S0 goes", machine.count(2), 0);
            }
        }
    }

    private static void arithmetic() {
        int[] numbers = {Integer.MIN_VALUE, -65536, -7, -2, -1, 0, 1, 2, 7, 46341, Integer.MAX_VALUE};
        for (int a : numbers) {
            for (int b : numbers) {
                dueOf(a, b, Programs.ADD, a + b);
                dueOf(a, b, Programs.SUB, a - b);
                dueOf(a, b, Programs.MUL, a * b);
                if (b != 0) {
                    dueOf(a, b, Programs.DIV, a / b);
                    dueOf(a, b, Programs.MOD, a % b);
                }
            }
        }
        dueOf(-7, 2, Programs.DIV, -3);
        dueOf(-7, 2, Programs.MOD, -1);
        dueOf(Integer.MIN_VALUE, -1, Programs.DIV, Integer.MIN_VALUE);
        dueOf(Integer.MIN_VALUE, -1, Programs.MOD, 0);
    }

    private static void dueOf(int a, int b, int instruction, int want) {
        ValueMachine machine = Programs.ran(
            Programs.TRUE, 0, Programs.PUSH, 0, Programs.INTEGER, a, Programs.PUSH, 0, Programs.INTEGER, b, instruction, 0);
        Programs.dueResult(a + " and " + b + " by " + instruction, machine, 3, want);
        Check.due("S0 alone goes", machine.count(2), 1);
    }

    private static void notAndSort() {
        int[][] values = {
            {Programs.NULL, 0}, {Programs.FALSE, 0}, {Programs.TRUE, 0}, {Programs.INTEGER, 2},
            {Programs.OBJECT, 0}, {Programs.ARRAY, 0}, {Programs.FUNCTION, 0}};
        for (int k = 0; k < values.length; k++) {
            ValueMachine not = Programs.ran(values[k][0], values[k][1], Programs.NOT, 0);
            Check.due("NOT of sort " + k, not.look(0, 0), k == 2 ? 1 : 2);
            dueInteger("SORT " + k, k, values[k][0], values[k][1], Programs.SORT, 0);
        }
    }

    private static void arrays() {
        ValueMachine machine = new ValueMachine();
        for (int k = 0; k < 21; k++) {
            Programs.add(machine, Programs.INTEGER, k, Programs.PUSH, 0);
        }
        Programs.add(machine, Programs.ARRAY, 20);
        machine.run(100);
        Programs.dueResult("ARRAY 20", machine, 5, 20);
        Check.due("ARRAY 20: they go", machine.count(2), 1);
        Programs.dueAt("ARRAY 20: the one below stays", machine, 1, 0, 3, 0);
        for (int k = 0; k < 20; k++) {
            machine.look(0, 0);
            Check.due("element " + k, machine.into(k), 3);
            Check.due("element " + k + ", the topmost one last", machine.value(), k + 1);
        }
        ValueMachine empty = Programs.ran(Programs.PUSH, 0, Programs.ARRAY, 0);
        Programs.dueResult("ARRAY 0", empty, 5, 0);
        Check.due("ARRAY 0 leaves the stack", empty.count(2), 1);
    }

    private static void functions() {
        Programs.dueResult("FUNCTION at the end", Programs.ran(Programs.FUNCTION, 8 + 3), 6, 11);
        Programs.dueResult("FUNCTION at itself", Programs.ran(Programs.FUNCTION, 7), 6, 7);
        ValueMachine machine = Programs.loaded(
            Programs.GO, 4, Programs.STACK, 1, Programs.SUB, 0, Programs.RETURN, 1,
            Programs.INTEGER, 5, Programs.PUSH, 0, Programs.INTEGER, 30, Programs.PUSH, 0,
            Programs.FUNCTION, 8 + 2, Programs.CALL, 2, Programs.PUSH, 0);
        machine.run(7);
        Check.due("CALL: notes", machine.count(3), 1);
        Check.due("CALL: it goes on at its place", machine.count(1), 1);
        Check.due("CALL leaves the stack", machine.count(2), 2);
        Programs.dueResult("CALL leaves the accumulator", machine, 6, 10);
        machine.run(2);
        Programs.dueResult("the function", machine, 3, 25);
        machine.run(1);
        Check.due("RETURN: notes", machine.count(3), 0);
        Check.due("RETURN: behind the call", machine.count(1), 10);
        Check.due("RETURN 1: values go", machine.count(2), 0);
        Programs.dueResult("RETURN leaves the accumulator", machine, 3, 25);
        ValueMachine end = Programs.ran(Programs.FUNCTION, 16, Programs.CALL, 0);
        Check.due("a call of the end is done", end.state(), 1);
        Check.due("a call of the end is noted", end.count(3), 1);
        Programs.add(end, Programs.RETURN, 0);
        Check.due("it returns to where more code came", end.run(1), 1);
        Check.due("it returns to where more code came", end.count(1), 2);
    }

    private static void callInCall() {
        ValueMachine machine = Programs.ran(
            Programs.GO, 5,
            Programs.FUNCTION, 8 * 4, Programs.CALL, 0, Programs.RETURN, 0,
            Programs.RETURN, 0,
            Programs.FUNCTION, 8, Programs.CALL, 0, Programs.TRUE, 0);
        Check.due("a call in a call: done", machine.state(), 1);
        Check.due("a call in a call: steps", machine.count(7), 8);
        Check.due("a call in a call: notes", machine.count(3), 0);
    }

    private static void traps() {
        ValueMachine machine = Programs.loaded(
            Programs.TRAP, 6, Programs.PUSH, 0, Programs.TRAP, 7, Programs.PUSH, 0, Programs.TRUE, 0,
            Programs.THROW, 0, Programs.THROW, 0, Programs.UNTRAP, 0, Programs.NULL, 0);
        machine.run(6);
        Check.due("the latest trap", machine.count(1), 7);
        Check.due("the trap goes", machine.count(3), 1);
        Check.due("the stack is as high as it was", machine.count(2), 1);
        Programs.dueResult("what was thrown", machine, 2, 0);
        machine.run(1);
        Check.due("UNTRAP: the note goes", machine.count(3), 0);
        Check.due("UNTRAP: the next one", machine.count(1), 8);
        ValueMachine low = Programs.ran(
            Programs.PUSH, 0, Programs.PUSH, 0, Programs.TRAP, 5, Programs.POP, 1, Programs.THROW, 0);
        Check.due("the stack does not become higher", low.count(2), 1);
        ValueMachine fault = Programs.ran(Programs.TRUE, 0, Programs.TRAP, 3, Programs.SIZE, 0);
        Programs.dueResult("the accumulator is what went wrong", fault, 3, 1);
        Check.due("a trap that leads to the end", fault.state(), 1);
    }

    private static void trapAcrossCalls() {
        ValueMachine machine = Programs.loaded(
            Programs.FUNCTION, 8 * 2, Programs.CALL, 0,
            Programs.TRAP, 6, Programs.FUNCTION, 8 * 5, Programs.CALL, 0,
            Programs.THROW, 0,
            Programs.RETURN, 0);
        machine.run(5);
        Check.due("two calls and a trap", machine.count(3), 3);
        machine.run(1);
        Check.due("notes behind the trap and it go", machine.count(3), 1);
        Check.due("it goes on at the trap's place", machine.count(1), 6);
        Programs.dueResult("a function was thrown", machine, 6, 40);
        machine.run(1);
        Check.due("the call before the trap is still noted", machine.count(1), 2);
        Check.due("no note is left", machine.count(3), 0);
    }

    private static void factorial() {
        ValueMachine machine = Programs.ran(
            Programs.GO, 12,
            Programs.STACK, 0, Programs.PUSH, 0, Programs.INTEGER, 2, Programs.LESS, 0, Programs.UNLESS, 8,
            Programs.INTEGER, 1, Programs.RETURN, 1,
            Programs.STACK, 0, Programs.PUSH, 0, Programs.INTEGER, 1, Programs.GO, 16,
            Programs.INTEGER, 10, Programs.PUSH, 0, Programs.FUNCTION, 9, Programs.GO, 22,
            Programs.SUB, 0, Programs.PUSH, 0, Programs.FUNCTION, 9, Programs.CALL, 1,
            Programs.MUL, 0, Programs.RETURN, 0,
            Programs.CALL, 1);
        Programs.dueResult("10!", machine, 3, 3628800);
        Check.due("10!: done", machine.state(), 1);
        Check.due("10!: the stack", machine.count(2), 0);
    }
}
