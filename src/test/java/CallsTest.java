/** Promises 1 to 11, a method each: what every call answers and changes. */
public final class CallsTest {
    private static final int NONE = ValueMachine.NONE;

    public static void main(String[] args) {
        newObject();
        code();
        codeWhenFull();
        codeBehindTheEnd();
        clear();
        reset();
        run();
        runWrongNumbers();
        state();
        look();
        lookChoosesNothing();
        into();
        value();
        isSame();
        isSameOfThings();
        count();
        Check.end();
    }

    private static void newObject() {
        ValueMachine machine = new ValueMachine();
        dueAsAtFirst("a new object", machine, 0);
        Check.due("a new object: run", machine.run(20000), 0);
        Check.due("a new object: into", machine.into(0), NONE);
    }

    private static void dueAsAtFirst(String what, ValueMachine machine, int instructions) {
        Check.due(what + ": value", machine.value(), 0);
        Check.due(what + ": into", machine.into(0), NONE);
        Check.holds(what + ": NULL is looked at", machine.isSame());
        Check.due(what + ": state", machine.state(), instructions == 0 ? 1 : 0);
        Check.due(what + ": count(0)", machine.count(0), instructions);
        for (int k = 1; k <= 8; k++) {
            Check.due(what + ": count(" + k + ")", machine.count(k), 0);
        }
        Check.due(what + ": the accumulator", machine.look(0, 0), 0);
        Check.due(what + ": the stack", machine.look(1, 0), NONE);
        for (int k = 0; k < 8; k++) {
            Check.due(what + ": global " + k, machine.look(2, k), 0);
        }
        Check.due(what + ": what stopped it", machine.look(3, 0), NONE);
    }

    private static void code() {
        ValueMachine machine = new ValueMachine();
        for (int k = 0; k <= 34; k++) {
            Check.due("code(" + k + ")", machine.code(k, -k), k + 1);
        }
        for (int bad : new int[] {-1, 35, 100, Integer.MIN_VALUE, Integer.MAX_VALUE}) {
            Check.refuses("code(" + bad + ")", () -> machine.code(bad, 0));
        }
        Check.due("code: refused ones don't count", machine.count(0), 35);
        Check.due("code: any x", machine.code(3, Integer.MIN_VALUE), 36);
    }

    private static void codeWhenFull() {
        ValueMachine machine = new ValueMachine();
        for (int k = 1; k <= 150; k++) {
            Check.due("code, the one number " + k, machine.code(3, k), k);
        }
        Check.due("code when there are 150", machine.code(3, 999), NONE);
        Check.due("code when there are 150", machine.count(0), 150);
        Check.refuses("no such instruction when there are 150", () -> machine.code(35, 0));
        Check.due("run of 150", machine.run(20000), 150);
        Programs.dueResult("run of 150", machine, 3, 150);
    }

    private static void codeBehindTheEnd() {
        ValueMachine machine = Programs.ran(Programs.INTEGER, 5, Programs.PUSH, 0);
        Check.due("done", machine.state(), 1);
        machine.look(0, 0);
        machine.code(Programs.ADD, 0);
        Check.due("code leaves what is looked at", machine.value(), 5);
        Check.due("more code: it goes on", machine.state(), 0);
        Check.due("more code: run", machine.run(10), 1);
        Programs.dueResult("more code", machine, 3, 10);
        Programs.add(machine, Programs.GO, 99);
        machine.run(1);
        Programs.add(machine, Programs.NULL, 0);
        Check.due("more code does not wake what is stopped", machine.state(), 2);
        Check.due("more code does not wake what is stopped", machine.run(5), 0);
    }

    /** Goes wrong again and again, and every time back to the beginning. */
    private static ValueMachine endless() {
        return Programs.loaded(
            Programs.TRAP, 0, Programs.INTEGER, 7, Programs.PUSH, 0, Programs.SET_GLOBAL, 7,
            Programs.OBJECT, 0, Programs.PUSH, 0, Programs.THROW, 0);
    }

    /** Leaves something in every part of the machine, and stops it. */
    private static int makesAndStops(ValueMachine machine) {
        Programs.add(machine,
            Programs.INTEGER, 7, Programs.PUSH, 0, Programs.SET_GLOBAL, 0, Programs.SET_GLOBAL, 7,
            Programs.FUNCTION, 0, Programs.FUNCTION, 8 * 7, Programs.CALL, 0, Programs.OBJECT, 0,
            Programs.PUSH, 0, Programs.OBJECT, 0, Programs.TRUE, 0, Programs.TRAP, 13, Programs.SIZE, 0,
            Programs.SIZE, 0);
        return machine.run(20000);
    }

    private static void clear() {
        ValueMachine machine = new ValueMachine();
        Check.due("clear: the run before", makesAndStops(machine), 14);
        Check.due("clear: the state before", machine.state(), 2);
        machine.look(0, 0);
        machine.clear();
        dueAsAtFirst("clear", machine, 0);
        Check.due("clear: code", machine.code(Programs.INTEGER, 3), 1);
        Check.due("clear: run", machine.run(9), 1);
        Programs.dueResult("clear", machine, 3, 3);
        Check.due("clear: another", Programs.loaded(1, 0, 2, 0).count(0), 2);
    }

    private static void reset() {
        ValueMachine machine = new ValueMachine();
        makesAndStops(machine);
        Check.due("reset: things before", machine.count(5), 2);
        Check.due("reset: wrong before", machine.count(8), 2);
        Check.due("reset: notes before", machine.count(3), 1);
        machine.look(0, 0);
        machine.reset();
        dueAsAtFirst("reset", machine, 14);
        Check.due("reset: the same run again", machine.run(20000), 14);
        Check.due("reset: things again", machine.count(4), 2);
        Check.due("reset: steps again", machine.count(7), 14);

        ValueMachine endless = endless();
        Check.due("reset: an endless run", endless.run(1000), 1000);
        Check.due("reset: an endless run sweeps", endless.count(6), 4);
        endless.reset();
        dueAsAtFirst("reset of what goes on", endless, 7);
    }

    private static void run() {
        ValueMachine machine = Programs.loaded(
            Programs.INTEGER, 1, Programs.PUSH, 0, Programs.POP, 1, Programs.GO, 1);
        machine.run(1);
        machine.look(0, 0);
        Check.due("value before run(0)", machine.value(), 1);
        Check.due("run(0)", machine.run(0), 0);
        Check.due("run(0): NULL is looked at", machine.value(), 0);
        Check.holds("run(0): NULL is not the accumulator", !machine.isSame());
        Check.due("run(0) does none", machine.count(7), 1);
        Check.due("run(1)", machine.run(1), 1);
        Check.due("run(1): the next", machine.count(1), 2);
        Check.due("run(20000)", machine.run(20000), 20000);
        Check.due("instructions done", machine.count(7), 20002);
        Check.due("run in a round: the next", machine.count(1), 1);

        ValueMachine stopped = Programs.loaded(Programs.INTEGER, 4, Programs.SIZE, 0, Programs.NULL, 0);
        Check.due("run: one that goes wrong counts", stopped.run(10), 2);
        stopped.look(0, 0);
        Check.due("run when stopped", stopped.run(10), 0);
        Check.due("run when stopped: NULL is looked at", stopped.value(), 0);
        Check.due("run when stopped: instructions done", stopped.count(7), 2);

        ValueMachine done = Programs.ran(Programs.INTEGER, 4);
        done.look(0, 0);
        Check.due("run when done", done.run(10), 0);
        Check.due("run when done: NULL is looked at", done.value(), 0);
    }

    private static void runWrongNumbers() {
        ValueMachine machine = Programs.loaded(Programs.INTEGER, 1, Programs.INTEGER, 2);
        machine.run(1);
        machine.look(0, 0);
        for (int bad : new int[] {-1, 20001, Integer.MIN_VALUE, Integer.MAX_VALUE}) {
            Check.refuses("run(" + bad + ")", () -> machine.run(bad));
        }
        Check.due("a refused run: what is looked at stays", machine.value(), 1);
        Check.due("a refused run does none", machine.count(1), 1);
        ValueMachine stopped = Programs.ran(Programs.THROW, 0);
        Check.refuses("run(-1) when stopped", () -> stopped.run(-1));
    }

    private static void state() {
        ValueMachine machine = Programs.loaded(Programs.NULL, 0, Programs.GO, 3, Programs.NULL, 0);
        Check.due("state before", machine.state(), 0);
        machine.run(2);
        Check.due("state behind the last one", machine.state(), 1);
        Check.due("the one that comes next at the end", machine.count(1), 3);
        ValueMachine last = Programs.ran(Programs.NULL, 0, Programs.THROW, 0);
        Check.due("state: stopped at the last one", last.state(), 2);
        Check.due("the one that comes next when stopped", last.count(1), 1);
        ValueMachine trapped = Programs.ran(Programs.TRAP, 2, Programs.THROW, 0);
        Check.due("state: a trap that leads to the end", trapped.state(), 1);
    }

    private static void look() {
        ValueMachine machine = Programs.ran(
            Programs.INTEGER, 10, Programs.PUSH, 0, Programs.TRUE, 0, Programs.PUSH, 0,
            Programs.INTEGER, 30, Programs.SET_GLOBAL, 0, Programs.FALSE, 0, Programs.SET_GLOBAL, 7,
            Programs.INTEGER, -5, Programs.THROW, 0);
        Programs.dueAt("the accumulator", machine, 0, 12345, 3, -5);
        Programs.dueAt("S0", machine, 1, 0, 2, 0);
        Programs.dueAt("S1", machine, 1, 1, 3, 10);
        Programs.dueAt("global 0", machine, 2, 0, 3, 30);
        Programs.dueAt("global 1", machine, 2, 1, 0, 0);
        Programs.dueAt("global 7", machine, 2, 7, 1, 0);
        Programs.dueAt("what stopped it", machine, 3, -77, 3, -5);
        ValueMachine fresh = Programs.ran(Programs.INTEGER, 1);
        Check.due("what stopped it when done", fresh.look(3, 0), NONE);
        ValueMachine nothing = Programs.ran(Programs.THROW, 0);
        Check.due("NULL stopped it", nothing.look(3, 0), 0);
        ValueMachine thing = Programs.ran(Programs.OBJECT, 0, Programs.THROW, 0);
        Check.due("an object stopped it", thing.look(3, 0), 4);
        Check.holds("the object that stopped it is the accumulator", thing.isSame());
    }

    private static void lookChoosesNothing() {
        ValueMachine machine = Programs.ran(Programs.INTEGER, 10, Programs.PUSH, 0, Programs.INTEGER, 6);
        int[][] wrong = {
            {1, 1}, {1, -1}, {1, 120}, {1, Integer.MAX_VALUE}, {1, Integer.MIN_VALUE},
            {2, 8}, {2, -1}, {2, Integer.MAX_VALUE}, {3, 0}, {4, 0}, {-1, 0},
            {Integer.MAX_VALUE, 0}, {Integer.MIN_VALUE, 0}};
        machine.look(1, 0);
        for (int[] pair : wrong) {
            String call = "look(" + pair[0] + ", " + pair[1] + ")";
            Check.due(call, machine.look(pair[0], pair[1]), NONE);
            Check.due(call + " leaves what is looked at", machine.value(), 10);
        }
    }

    private static void into() {
        ValueMachine machine = Programs.ran(
            Programs.OBJECT, 0, Programs.SET_GLOBAL, 0, Programs.PUSH, 0, Programs.INTEGER, 8, Programs.PUSH, 0,
            Programs.INTEGER, 9, Programs.PUSH, 0, Programs.ARRAY, 2, Programs.SET_FIELD, 15);
        Check.due("an object", machine.look(2, 0), 4);
        Check.due("field 0", machine.into(0), 0);
        machine.look(2, 0);
        for (int bad : new int[] {16, 19, 20, -1, Integer.MAX_VALUE, Integer.MIN_VALUE}) {
            Check.due("field " + bad, machine.into(bad), NONE);
        }
        Check.due("into chose nothing: field 15", machine.into(15), 5);
        Check.due("into chose the array", machine.value(), 2);
        for (int bad : new int[] {2, -1, 19, 20, Integer.MAX_VALUE, Integer.MIN_VALUE}) {
            Check.due("element " + bad, machine.into(bad), NONE);
        }
        Check.due("element 0", machine.into(0), 3);
        Check.due("element 0", machine.value(), 8);
        Check.due("into an integer", machine.into(0), NONE);
        Check.due("into an integer chose nothing", machine.value(), 8);
        machine.look(2, 0);
        machine.into(15);
        machine.into(1);
        Check.due("element 1", machine.value(), 9);
        dueNoPart("NULL", Programs.ran(Programs.NULL, 0));
        dueNoPart("FALSE", Programs.ran(Programs.FALSE, 0));
        dueNoPart("TRUE", Programs.ran(Programs.TRUE, 0));
        dueNoPart("a function", Programs.ran(Programs.FUNCTION, 0));
        dueNoPart("an empty array", Programs.ran(Programs.ARRAY, 0));
    }

    private static void dueNoPart(String what, ValueMachine machine) {
        machine.look(0, 0);
        Check.due("into " + what, machine.into(0), NONE);
    }

    private static void value() {
        Programs.dueResult("NULL", Programs.ran(Programs.NULL, 5), 0, 0);
        Programs.dueResult("FALSE", Programs.ran(Programs.FALSE, 5), 1, 0);
        Programs.dueResult("TRUE", Programs.ran(Programs.TRUE, 5), 2, 0);
        Programs.dueResult("the least", Programs.ran(Programs.INTEGER, Integer.MIN_VALUE), 3, Integer.MIN_VALUE);
        Programs.dueResult("the greatest", Programs.ran(Programs.INTEGER, Integer.MAX_VALUE), 3, Integer.MAX_VALUE);
        Programs.dueResult("-1", Programs.ran(Programs.INTEGER, -1), 3, -1);
        ValueMachine second = Programs.ran(Programs.OBJECT, 0, Programs.OBJECT, 0);
        Programs.dueResult("an object", second, 4, 0);
        Programs.dueResult("an array", Programs.ran(Programs.PUSH, 0, Programs.PUSH, 0, Programs.ARRAY, 2), 5, 2);
        Programs.dueResult("a function", Programs.ran(Programs.FUNCTION, 8 * 1 + 7), 6, 15);
    }

    private static void isSame() {
        int[][] makers = {
            {Programs.NULL, 0}, {Programs.FALSE, 0}, {Programs.TRUE, 0}, {Programs.INTEGER, 0},
            {Programs.INTEGER, 1}, {Programs.INTEGER, -1}, {Programs.FUNCTION, 0}, {Programs.FUNCTION, 1},
            {Programs.FUNCTION, 8}};
        for (int a = 0; a < makers.length; a++) {
            for (int b = 0; b < makers.length; b++) {
                ValueMachine machine = Programs.ran(
                    makers[a][0], makers[a][1], Programs.PUSH, 0, makers[b][0], makers[b][1]);
                machine.look(1, 0);
                Check.holds("isSame of " + a + " and " + b, machine.isSame() == (a == b));
                Programs.add(machine, Programs.SAME, 0);
                machine.run(1);
                Check.due("SAME of " + a + " and " + b, machine.look(0, 0), a == b ? 2 : 1);
            }
        }
    }

    private static void isSameOfThings() {
        ValueMachine machine = Programs.ran(
            Programs.OBJECT, 0, Programs.SET_GLOBAL, 0, Programs.OBJECT, 0, Programs.SET_GLOBAL, 1,
            Programs.ARRAY, 0, Programs.SET_GLOBAL, 2, Programs.ARRAY, 0, Programs.SET_GLOBAL, 3,
            Programs.GLOBAL, 1);
        for (int k = 0; k < 4; k++) {
            machine.look(2, k);
            Check.holds("the second object and global " + k, machine.isSame() == (k == 1));
        }
        Programs.add(machine, Programs.GLOBAL, 2);
        machine.run(1);
        for (int k = 0; k < 4; k++) {
            machine.look(2, k);
            Check.holds("the first array and global " + k, machine.isSame() == (k == 2));
        }
    }

    private static void count() {
        ValueMachine machine = Programs.ran(
            Programs.TRAP, 3, Programs.PUSH, 0, Programs.THROW, 0, Programs.OBJECT, 0, Programs.PUSH, 0,
            Programs.PUSH, 0, Programs.TRAP, 0, Programs.ARRAY, 0, Programs.UNTRAP, 0, Programs.TRAP, 13,
            Programs.FUNCTION, 8 * 12, Programs.CALL, 0, Programs.NOT, 0, Programs.RETURN, 3);
        // RETURN 3 goes wrong at 13, the trap leads to 13, and there it goes wrong once more
        int[] want = {14, 13, 2, 0, 2, 2, 0, 15, 3};
        Check.due("count: state", machine.state(), 2);
        for (int k = 0; k <= 8; k++) {
            Check.due("count(" + k + ")", machine.count(k), want[k]);
        }
        for (int bad : new int[] {-1, 9, Integer.MAX_VALUE, Integer.MIN_VALUE}) {
            Check.due("count(" + bad + ")", machine.count(bad), NONE);
        }
        ValueMachine noted = Programs.ran(Programs.TRAP, 0, Programs.TRAP, 0, Programs.FUNCTION, 32, Programs.CALL, 0);
        Check.due("count: two traps and a call", noted.count(3), 3);
    }
}
