/** What goes wrong in each instruction, which of several things goes first, and that nothing else is done. */
public final class GoesWrongTest {
    private static final int MIN = Integer.MIN_VALUE;
    private static final int MAX = Integer.MAX_VALUE;

    public static void main(String[] args) {
        sorts();
        sortsOnTheStack();
        elements();
        tooFew();
        fullStack();
        fullNotes();
        byZero();
        notes();
        places();
        fieldsAndGlobals();
        severalThings();
        severalThingsWhenFull();
        nothingIsDone();
        thrown();
        trapped();
        Check.end();
    }

    /** The last instruction of the program must go wrong so. */
    private static void dueWrong(int fault, int... program) {
        ValueMachine machine = Programs.ran(program);
        StringBuilder text = new StringBuilder("program");
        for (int number : program) {
            text.append(' ').append(number);
        }
        Programs.dueStop(text.toString(), machine, fault, program.length / 2 - 1);
        Check.due(text + ": once", machine.count(8), 1);
    }

    private static int[] joined(int[] first, int... second) {
        int[] all = new int[first.length + second.length];
        System.arraycopy(first, 0, all, 0, first.length);
        System.arraycopy(second, 0, all, first.length, second.length);
        return all;
    }

    /** Programs that leave a value of each sort in the accumulator. */
    private static int[] maker(int sort) {
        switch (sort) {
            case 3: return new int[] {Programs.INTEGER, 0};
            case 4: return new int[] {Programs.OBJECT, 0};
            case 5: return new int[] {Programs.PUSH, 0, Programs.ARRAY, 1};
            case 6: return new int[] {Programs.FUNCTION, 0};
            default: return new int[] {sort, 0};
        }
    }

    private static void sorts() {
        for (int sort = 0; sort <= 6; sort++) {
            if (sort != 4) {
                dueWrong(1, joined(maker(sort), Programs.FIELD, 0));
            }
            if (sort != 5) {
                dueWrong(1, joined(maker(sort), Programs.SIZE, 0));
            }
            if (sort != 6) {
                dueWrong(1, joined(maker(sort), Programs.CALL, 0));
            }
        }
        dueWrong(1, Programs.FUNCTION, 1, Programs.CALL, 0);
        dueWrong(1, Programs.PUSH, 0, Programs.FUNCTION, 0, Programs.CALL, 1);
        dueWrong(1, Programs.PUSH, 0, Programs.PUSH, 0, Programs.FUNCTION, 9, Programs.CALL, 2);
    }

    private static void sortsOnTheStack() {
        for (int low = 0; low <= 6; low++) {
            for (int high = 0; high <= 6; high++) {
                int[] pair = joined(joined(maker(low), Programs.PUSH, 0), maker(high));
                if (low != 3 || high != 3) {
                    for (int k = Programs.LESS; k <= Programs.MOD; k++) {
                        dueWrong(1, joined(pair, k, 0));
                    }
                }
                if (low != 5 || high != 3) {
                    dueWrong(1, joined(pair, Programs.AT, 0));
                    dueWrong(1, joined(pair, Programs.PUSH, 0, Programs.SET_AT, 0));
                }
            }
            if (low != 4) {
                dueWrong(1, joined(maker(low), Programs.PUSH, 0, Programs.SET_FIELD, 0));
            }
        }
    }

    private static void elements() {
        int[] two = {Programs.PUSH, 0, Programs.PUSH, 0, Programs.ARRAY, 2, Programs.PUSH, 0};
        for (int bad : new int[] {2, -1, 19, 20, MIN, MAX}) {
            dueWrong(2, joined(two, Programs.INTEGER, bad, Programs.AT, 0));
            dueWrong(2, joined(two, Programs.INTEGER, bad, Programs.PUSH, 0, Programs.SET_AT, 0));
        }
        dueWrong(2, Programs.ARRAY, 0, Programs.PUSH, 0, Programs.INTEGER, 0, Programs.AT, 0);
        int[] many = new int[2 * 30];
        for (int k = 0; k < 30; k++) {
            many[2 * k] = Programs.PUSH;
        }
        for (int x = 21; x <= 30; x++) {
            dueWrong(2, joined(many, Programs.ARRAY, x));
        }
        dueWrong(3, joined(many, Programs.ARRAY, 31));
    }

    private static void tooFew() {
        int[] counted = {Programs.POP, Programs.ARRAY, Programs.CALL, Programs.RETURN};
        for (int instruction : counted) {
            for (int bad : new int[] {-1, 3, 100, MIN, MAX}) {
                dueWrong(3, Programs.PUSH, 0, Programs.PUSH, 0, instruction, bad);
            }
        }
        for (int instruction : new int[] {Programs.STACK, Programs.SET_STACK}) {
            for (int bad : new int[] {-1, 2, 120, MIN, MAX}) {
                dueWrong(3, Programs.PUSH, 0, Programs.PUSH, 0, instruction, bad);
            }
        }
        int[] one = {
            Programs.AT, Programs.SET_FIELD, Programs.SAME, Programs.LESS, Programs.ADD, Programs.SUB,
            Programs.MUL, Programs.DIV, Programs.MOD, Programs.SET_AT};
        for (int instruction : one) {
            dueWrong(3, instruction, 0);
            dueWrong(3, Programs.INTEGER, 0, instruction, 0);
        }
        dueWrong(3, Programs.INTEGER, 0, Programs.PUSH, 0, Programs.SET_AT, 0);
        dueWrong(3, Programs.FUNCTION, 1, Programs.CALL, 1);
    }

    private static void fullStack() {
        ValueMachine machine = Programs.loaded(Programs.TRUE, 0, Programs.PUSH, 0, Programs.GO, 1);
        Check.due("120 pushes", machine.run(1 + 2 * 120), 241);
        Check.due("120 pushes", machine.count(2), 120);
        Check.due("120 pushes", machine.state(), 0);
        machine.run(1);
        Programs.dueStop("the 121st push", machine, 4, 1);
        Check.due("the 121st push", machine.count(2), 120);
        Check.due("S119", machine.look(1, 119), 2);
        Check.due("S120", machine.look(1, 120), ValueMachine.NONE);
    }

    private static void fullNotes() {
        ValueMachine traps = Programs.loaded(Programs.TRAP, 1, Programs.GO, 0);
        traps.run(80);
        Check.due("40 traps", traps.count(3), 40);
        Check.due("40 traps", traps.count(8), 0);
        traps.run(1);
        Programs.dueResult("the 41st trap", traps, 3, 4);
        Check.due("the 41st trap", traps.count(3), 39);
        ValueMachine calls = Programs.loaded(Programs.FUNCTION, 8, Programs.CALL, 0);
        calls.run(41);
        Check.due("40 calls", calls.count(3), 40);
        Check.due("40 calls", calls.state(), 0);
        calls.run(1);
        Programs.dueStop("the 41st call", calls, 4, 1);
        Programs.dueResult("the 41st call leaves the accumulator", calls, 6, 8);
        ValueMachine mixed = Programs.loaded(Programs.TRAP, 4, Programs.FUNCTION, 24, Programs.CALL, 0, Programs.GO, 0);
        mixed.run(4 * 20);
        Check.due("20 traps and 20 calls", mixed.count(3), 40);
        mixed.run(1);
        Check.due("the 21st trap leads to the latest", mixed.count(3), 38);
        Check.due("the 21st trap leads to the latest", mixed.state(), 1);
    }

    private static void byZero() {
        for (int instruction : new int[] {Programs.DIV, Programs.MOD}) {
            for (int left : new int[] {0, 1, -1, MIN, MAX}) {
                dueWrong(5, Programs.INTEGER, left, Programs.PUSH, 0, Programs.INTEGER, 0, instruction, 0);
            }
        }
    }

    private static void notes() {
        dueWrong(7, Programs.RETURN, 0);
        dueWrong(7, Programs.PUSH, 0, Programs.RETURN, 1);
        dueWrong(7, Programs.UNTRAP, 0);
        dueWrong(7, Programs.FUNCTION, 16, Programs.CALL, 0, Programs.UNTRAP, 0);
        dueWrong(7, Programs.TRAP, 0, Programs.UNTRAP, 0, Programs.UNTRAP, 0);
        ValueMachine behind = Programs.ran(
            Programs.FUNCTION, 16, Programs.CALL, 0, Programs.TRAP, 4, Programs.RETURN, 0);
        Programs.dueResult("RETURN with a trap behind the call", behind, 3, 7);
        Check.due("RETURN with a trap behind the call", behind.count(3), 1);
        ValueMachine over = Programs.ran(
            Programs.TRAP, 4, Programs.FUNCTION, 24, Programs.CALL, 0, Programs.UNTRAP, 0);
        Programs.dueResult("UNTRAP with a call behind the trap", over, 3, 7);
        Check.due("UNTRAP with a call behind the trap", over.count(3), 0);
    }

    private static void places() {
        for (int instruction : new int[] {Programs.GO, Programs.IF, Programs.UNLESS, Programs.TRAP}) {
            for (int bad : new int[] {-1, 3, 150, MIN, MAX}) {
                dueWrong(8, Programs.NULL, 0, instruction, bad);
                dueWrong(8, Programs.TRUE, 0, instruction, bad);
            }
            ValueMachine machine = Programs.ran(Programs.NULL, 0, instruction, 2);
            Check.due("the end is a place: " + instruction, machine.state(), 1);
        }
        for (int bad : new int[] {-1, -8, 24, 31, 8 * 150, MIN, MAX}) {
            dueWrong(8, Programs.NULL, 0, Programs.FUNCTION, bad);
        }
        Programs.dueResult("a function at the end", Programs.ran(Programs.NULL, 0, Programs.FUNCTION, 23), 6, 23);
    }

    private static void fieldsAndGlobals() {
        for (int bad : new int[] {-1, 16, 19, 20, MIN, MAX}) {
            dueWrong(8, Programs.OBJECT, 0, Programs.FIELD, bad);
            dueWrong(8, Programs.OBJECT, 0, Programs.PUSH, 0, Programs.SET_FIELD, bad);
        }
        for (int bad : new int[] {-1, 8, MIN, MAX}) {
            dueWrong(8, Programs.GLOBAL, bad);
            dueWrong(8, Programs.SET_GLOBAL, bad);
        }
    }

    private static void severalThings() {
        dueWrong(1, Programs.FIELD, 16);
        dueWrong(1, Programs.PUSH, 0, Programs.SET_FIELD, -1);
        dueWrong(3, Programs.SET_FIELD, 16);
        dueWrong(3, Programs.CALL, 1);
        dueWrong(3, Programs.FUNCTION, 1, Programs.CALL, 2);
        dueWrong(3, Programs.RETURN, 1);
        dueWrong(3, Programs.RETURN, -1);
        dueWrong(3, Programs.ARRAY, 21);
        dueWrong(1, Programs.PUSH, 0, Programs.INTEGER, 0, Programs.DIV, 0);
        dueWrong(1, Programs.PUSH, 0, Programs.INTEGER, -1, Programs.AT, 0);
        dueWrong(1, Programs.PUSH, 0, Programs.ARRAY, 1, Programs.PUSH, 0, Programs.AT, 0);
    }

    private static void severalThingsWhenFull() {
        Programs.dueStop("a trap to nowhere when notes are full", fullOfCalls(Programs.TRAP, 99), 4, 4);
        Programs.dueStop("a call of NULL when notes are full", fullOfCalls(Programs.CALL, 0), 1, 4);
        Programs.dueStop("a call of too much when notes are full", fullOfCalls(Programs.CALL, 99), 3, 4);
    }

    /** The function at 6 counts in global 0 and calls itself 40 times, then it goes to the instruction. */
    private static ValueMachine fullOfCalls(int instruction, int x) {
        ValueMachine machine = Programs.ran(
            Programs.INTEGER, 0, Programs.SET_GLOBAL, 0, Programs.GO, 6, Programs.NULL, 0, instruction, x,
            Programs.NULL, 0,
            Programs.GLOBAL, 0, Programs.PUSH, 0, Programs.INTEGER, 1, Programs.ADD, 0, Programs.SET_GLOBAL, 0,
            Programs.GLOBAL, 0, Programs.PUSH, 0, Programs.INTEGER, 41, Programs.SAME, 0, Programs.IF, 3,
            Programs.FUNCTION, 6 * 8, Programs.CALL, 0);
        Check.due("40 calls", machine.count(3), 40);
        return machine;
    }

    private static void nothingIsDone() {
        ValueMachine machine = Programs.ran(
            Programs.INTEGER, 3, Programs.PUSH, 0, Programs.PUSH, 0, Programs.ARRAY, 1, Programs.SET_GLOBAL, 1,
            Programs.PUSH, 0, Programs.INTEGER, 1, Programs.PUSH, 0, Programs.TRUE, 0, Programs.SET_AT, 0);
        Programs.dueStop("SET AT", machine, 2, 9);
        Check.due("SET AT: the stack", machine.count(2), 3);
        Programs.dueResult("SET AT: the accumulator", machine, 2, 0);
        Programs.dueAt("SET AT: S0", machine, 1, 0, 3, 1);
        Programs.dueAt("SET AT: S1", machine, 1, 1, 5, 1);
        machine.into(0);
        Check.due("SET AT: the element", machine.value(), 3);
        ValueMachine divided = Programs.ran(
            Programs.INTEGER, 3, Programs.PUSH, 0, Programs.INTEGER, 0, Programs.DIV, 0);
        Programs.dueResult("DIV: the accumulator", divided, 3, 0);
        Programs.dueAt("DIV: S0", divided, 1, 0, 3, 3);
        ValueMachine returned = Programs.ran(Programs.PUSH, 0, Programs.RETURN, 1);
        Check.due("RETURN: the stack", returned.count(2), 1);
    }

    private static void thrown() {
        for (int sort = 0; sort <= 6; sort++) {
            ValueMachine machine = Programs.ran(joined(maker(sort), Programs.THROW, 0));
            Check.due("THROW of sort " + sort, machine.state(), 2);
            Check.due("THROW of sort " + sort, machine.look(3, 0), sort);
            Check.holds("THROW of sort " + sort, machine.isSame());
            Check.due("THROW of sort " + sort, machine.count(8), 1);
        }
    }

    private static void trapped() {
        ValueMachine machine = Programs.loaded(
            Programs.TRAP, 3, Programs.INTEGER, 77, Programs.GLOBAL, 9, Programs.PUSH, 0,
            Programs.TRAP, 6, Programs.THROW, 0, Programs.SAME, 0, Programs.SIZE, 0);
        machine.run(3);
        Programs.dueResult("trapped", machine, 3, 8);
        Check.due("trapped: it goes on", machine.state(), 0);
        Check.due("trapped: nothing stopped it", machine.look(3, 0), ValueMachine.NONE);
        machine.run(4);
        Programs.dueResult("trapped: an integer thrown is the same", machine, 2, 0);
        machine.run(1);
        Programs.dueStop("no trap is left", machine, 1, 7);
        Check.due("times something went wrong", machine.count(8), 3);
    }
}
