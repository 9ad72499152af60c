/** The room for things: what a sweep keeps and what goes, and when there is no room. */
public final class RoomTest {
    public static void main(String[] args) {
        noSweepBefore();
        sweepOfAll();
        accumulatorIsKept();
        stackIsKept();
        globalsAreKept();
        chainIsKept();
        ringGoes();
        ringIsKept();
        elementsAreKept();
        whatANewArrayTakes();
        whatWasPoppedGoes();
        noRoom();
        noRoomForAnArray();
        wrongArraysDoNotSweep();
        noRoomIsTrapped();
        newFieldsAreNull();
        thingsAreApartAfterReset();
        thingsAreApartAfterSweeps();
        longArrayBesideAnother();
        arrayFromAFullStack();
        whatWentHoldsNothing();
        swept512();
        Check.end();
    }

    private static void dueCounts(String what, ValueMachine machine, int things, int made, int sweeps) {
        Check.due(what + ": things", machine.count(4), things);
        Check.due(what + ": made", machine.count(5), made);
        Check.due(what + ": sweeps", machine.count(6), sweeps);
    }

    /** Makes so many objects, one over the other in the accumulator. */
    private static void makeMore(ValueMachine machine, int many) {
        for (int k = 0; k < many; k++) {
            machine.code(Programs.OBJECT, 0);
        }
        machine.run(20000);
    }

    private static void noSweepBefore() {
        ValueMachine machine = new ValueMachine();
        makeMore(machine, 30);
        dueCounts("30 objects", machine, 30, 30, 0);
    }

    private static void sweepOfAll() {
        ValueMachine machine = new ValueMachine();
        makeMore(machine, 31);
        dueCounts("31 objects", machine, 2, 31, 1);
        makeMore(machine, 28);
        dueCounts("59 objects", machine, 30, 59, 1);
        makeMore(machine, 1);
        dueCounts("60 objects", machine, 2, 60, 2);
    }

    private static void accumulatorIsKept() {
        ValueMachine machine = new ValueMachine();
        makeMore(machine, 30);
        Programs.add(machine, Programs.NULL, 0);
        makeMore(machine, 1);
        dueCounts("with NULL in the accumulator", machine, 1, 31, 1);
    }

    private static void stackIsKept() {
        ValueMachine machine = Programs.ran(
            Programs.OBJECT, 0, Programs.PUSH, 0, Programs.INTEGER, 0, Programs.PUSH, 0,
            Programs.OBJECT, 0, Programs.PUSH, 0, Programs.PUSH, 0);
        makeMore(machine, 28);
        dueCounts("a full room", machine, 30, 30, 0);
        Programs.add(machine, Programs.TRUE, 0);
        makeMore(machine, 1);
        dueCounts("two on the stack", machine, 3, 31, 1);
        Check.due("S0", machine.look(1, 0), 4);
        Check.holds("S0 is not the new one", !machine.isSame());
        Check.due("S3", machine.look(1, 3), 4);
        Check.holds("S3 is not the new one", !machine.isSame());
    }

    private static void globalsAreKept() {
        ValueMachine machine = new ValueMachine();
        for (int k = 0; k < 8; k++) {
            Programs.add(machine, Programs.OBJECT, 0, Programs.SET_GLOBAL, k);
        }
        makeMore(machine, 22);
        Programs.add(machine, Programs.TRUE, 0);
        makeMore(machine, 1);
        dueCounts("eight globals", machine, 9, 31, 1);
        for (int k = 0; k < 8; k++) {
            Check.due("global " + k, machine.look(2, k), 4);
            Check.holds("global " + k + " is not the new one", !machine.isSame());
        }
    }

    /** In global 0 a chain of so many objects, each with the one before in the field. */
    private static ValueMachine chain(int many, int field) {
        ValueMachine machine = Programs.loaded(Programs.NULL, 0, Programs.SET_GLOBAL, 0);
        for (int k = 0; k < many; k++) {
            Programs.add(machine, Programs.OBJECT, 0, Programs.SET_GLOBAL, 1, Programs.PUSH, 0,
                Programs.GLOBAL, 0, Programs.SET_FIELD, field, Programs.GLOBAL, 1, Programs.SET_GLOBAL, 0);
        }
        Programs.add(machine, Programs.NULL, 0, Programs.SET_GLOBAL, 1);
        machine.run(20000);
        return machine;
    }

    private static void chainIsKept() {
        for (int field = 0; field < 16; field += 5) {
            ValueMachine machine = chain(15, field);
            makeMore(machine, 15);
            Programs.add(machine, Programs.NULL, 0);
            makeMore(machine, 1);
            dueCounts("a chain by field " + field, machine, 16, 31, 1);
            machine.look(2, 0);
            for (int k = 1; k < 15; k++) {
                Check.due("the chain by field " + field, machine.into(field), 4);
            }
            Check.due("the chain's end", machine.into(field), 0);
        }
    }

    private static void ring(ValueMachine machine) {
        Programs.add(machine,
            Programs.OBJECT, 0, Programs.SET_GLOBAL, 0, Programs.OBJECT, 0, Programs.SET_GLOBAL, 1,
            Programs.PUSH, 0, Programs.GLOBAL, 0, Programs.SET_FIELD, 3,
            Programs.PUSH, 0, Programs.GLOBAL, 1, Programs.SET_FIELD, 3, Programs.NULL, 0, Programs.SET_GLOBAL, 0);
        machine.run(20000);
    }

    private static void ringGoes() {
        ValueMachine machine = new ValueMachine();
        ring(machine);
        Programs.add(machine, Programs.SET_GLOBAL, 1);
        makeMore(machine, 28);
        Programs.add(machine, Programs.NULL, 0);
        makeMore(machine, 1);
        dueCounts("a ring that nothing comes to", machine, 1, 31, 1);
    }

    private static void ringIsKept() {
        ValueMachine machine = new ValueMachine();
        ring(machine);
        makeMore(machine, 28);
        Programs.add(machine, Programs.NULL, 0);
        makeMore(machine, 1);
        dueCounts("a ring in a global", machine, 3, 31, 1);
        machine.look(2, 1);
        for (int k = 0; k < 4; k++) {
            Check.due("round the ring", machine.into(3), 4);
        }
        Programs.add(machine, Programs.GLOBAL, 1);
        machine.run(1);
        machine.look(2, 1);
        machine.into(3);
        Check.holds("half round the ring", !machine.isSame());
        machine.into(3);
        Check.holds("once round the ring", machine.isSame());
    }

    private static void elementsAreKept() {
        ValueMachine machine = new ValueMachine();
        for (int k = 0; k < 20; k++) {
            Programs.add(machine, Programs.OBJECT, 0, Programs.PUSH, 0);
        }
        Programs.add(machine, Programs.ARRAY, 20, Programs.SET_GLOBAL, 4);
        machine.run(20000);
        makeMore(machine, 9);
        dueCounts("a full room", machine, 30, 30, 0);
        Programs.add(machine, Programs.FALSE, 0);
        makeMore(machine, 1);
        dueCounts("an array with 20 objects", machine, 22, 31, 1);
    }

    private static void whatANewArrayTakes() {
        ValueMachine machine = new ValueMachine();
        for (int k = 0; k < 5; k++) {
            Programs.add(machine, Programs.OBJECT, 0, Programs.PUSH, 0);
        }
        machine.run(20000);
        makeMore(machine, 25);
        Programs.add(machine, Programs.INTEGER, 1, Programs.ARRAY, 5);
        machine.run(20000);
        dueCounts("the values of a new array", machine, 6, 31, 1);
        for (int k = 0; k < 5; k++) {
            machine.look(0, 0);
            Check.due("element " + k, machine.into(k), 4);
            Check.due("its field", machine.into(0), 0);
        }
    }

    private static void whatWasPoppedGoes() {
        ValueMachine machine = Programs.ran(
            Programs.OBJECT, 0, Programs.PUSH, 0, Programs.PUSH, 0, Programs.POP, 2, Programs.NULL, 0);
        makeMore(machine, 29);
        Programs.add(machine, Programs.NULL, 0);
        makeMore(machine, 1);
        dueCounts("what was popped", machine, 1, 31, 1);
    }

    private static void noRoom() {
        ValueMachine machine = Programs.loaded(Programs.INTEGER, 5, Programs.OBJECT, 0, Programs.PUSH, 0, Programs.GO, 1);
        Check.due("30 objects on the stack", machine.run(20000), 1 + 3 * 30 + 1);
        Programs.dueStop("no room", machine, 6, 1);
        dueCounts("no room", machine, 30, 30, 1);
        Check.due("no room: the stack", machine.count(2), 30);
        machine.look(1, 0);
        Check.holds("no room: the accumulator is as it was", machine.isSame());
    }

    private static void noRoomForAnArray() {
        ValueMachine machine = new ValueMachine();
        for (int k = 0; k < 30; k++) {
            Programs.add(machine, Programs.OBJECT, 0, Programs.PUSH, 0);
        }
        Programs.add(machine, Programs.TRUE, 0, Programs.ARRAY, 20);
        machine.run(20000);
        Programs.dueStop("no room for an array", machine, 6, 61);
        dueCounts("no room for an array", machine, 30, 30, 1);
        Check.due("no room for an array: the stack", machine.count(2), 30);
        Check.due("no room for an array: the accumulator", machine.look(0, 0), 2);
    }

    private static void wrongArraysDoNotSweep() {
        for (int x : new int[] {21, 31, -1}) {
            ValueMachine machine = new ValueMachine();
            for (int k = 0; k < 30; k++) {
                Programs.add(machine, Programs.OBJECT, 0, Programs.PUSH, 0);
            }
            Programs.add(machine, Programs.ARRAY, x);
            machine.run(20000);
            Programs.dueStop("ARRAY " + x + " without room", machine, x == 21 ? 2 : 3, 60);
            dueCounts("ARRAY " + x + " without room", machine, 30, 30, 0);
        }
    }

    private static void noRoomIsTrapped() {
        ValueMachine machine = Programs.loaded(
            Programs.TRAP, 4, Programs.OBJECT, 0, Programs.PUSH, 0, Programs.GO, 1,
            Programs.SET_GLOBAL, 0, Programs.OBJECT, 0);
        machine.run(1 + 3 * 30 + 1);
        Programs.dueResult("trapped", machine, 3, 6);
        Check.due("trapped: the stack", machine.count(2), 0);
        dueCounts("trapped", machine, 30, 30, 1);
        machine.run(2);
        dueCounts("a new one after the trap", machine, 1, 31, 2);
        Check.due("done", machine.state(), 1);
    }

    private static void newFieldsAreNull() {
        ValueMachine machine = Programs.loaded(
            Programs.OBJECT, 0, Programs.PUSH, 0, Programs.TRUE, 0, Programs.SET_FIELD, 0, Programs.GO, 0);
        machine.run(5 * 30);
        machine.reset();
        machine.run(1);
        machine.look(0, 0);
        Check.due("a new object after a reset", machine.into(0), 0);
        machine.run(5 * 30);
        dueCounts("made again after a sweep", machine, 1, 31, 1);
        machine.look(0, 0);
        Check.due("a new object after a sweep", machine.into(0), 0);
    }

    /** Pushes objects until there is no room, and sets field 0 of each to 0, 1, 2, .. */
    private static void fillWithNumbered(ValueMachine machine) {
        int start = machine.count(0) + 2;
        Programs.add(machine, Programs.INTEGER, 0, Programs.SET_GLOBAL, 0,
            Programs.OBJECT, 0, Programs.PUSH, 0, Programs.PUSH, 0, Programs.GLOBAL, 0, Programs.SET_FIELD, 0,
            Programs.PUSH, 0, Programs.INTEGER, 1, Programs.ADD, 0, Programs.SET_GLOBAL, 0, Programs.GO, start);
        machine.run(20000);
    }

    private static void dueNumbered(String what, ValueMachine machine, int many) {
        Check.due(what + ": things", machine.count(4), 30);
        Check.due(what + ": on the stack", machine.count(2), many);
        Programs.dueAt(what + ": what stopped it", machine, 3, 0, 3, 6);
        for (int k = 0; k < many; k++) {
            Check.due(what + ": S" + k, machine.look(1, k), 4);
            Check.due(what + ": S" + k, machine.into(0), 3);
            Check.due(what + ": S" + k, machine.value(), many - 1 - k);
        }
    }

    private static void thingsAreApartAfterReset() {
        ValueMachine machine = new ValueMachine();
        fillWithNumbered(machine);
        dueNumbered("at first", machine, 30);
        machine.reset();
        machine.run(20000);
        dueNumbered("after a reset", machine, 30);
        machine.clear();
        fillWithNumbered(machine);
        dueNumbered("after a clear", machine, 30);
    }

    /** Every seventh object is kept in a global, the others go; then the globals change and the room is filled. */
    private static void thingsAreApartAfterSweeps() {
        for (int first = 0; first < 7; first++) {
            ValueMachine machine = new ValueMachine();
            for (int k = 0; k < 30; k++) {
                Programs.add(machine, Programs.OBJECT, 0);
                if (k % 7 == first) {
                    Programs.add(machine, Programs.SET_GLOBAL, 1 + k / 7);
                }
            }
            Programs.add(machine, Programs.NULL, 0, Programs.OBJECT, 0);
            for (int k = 1; k <= 5; k++) {
                Programs.add(machine, Programs.SET_GLOBAL, k);
            }
            for (int k = 0; k < 30; k++) {
                Programs.add(machine, Programs.OBJECT, 0);
            }
            machine.run(20000);
            Check.due("a second sweep", machine.count(6), 2);
            fillWithNumbered(machine);
            dueNumbered("after sweeps, first " + first, machine, 29);
            Check.due("the kept one", machine.look(2, 1), 4);
            Check.due("the kept one: field 0", machine.into(0), 0);
        }
    }

    private static void longArrayBesideAnother() {
        ValueMachine machine = new ValueMachine();
        Programs.add(machine, Programs.INTEGER, 1);
        for (int k = 0; k < 20; k++) {
            Programs.add(machine, Programs.PUSH, 0);
        }
        Programs.add(machine,
            Programs.OBJECT, 0, Programs.OBJECT, 0, Programs.SET_GLOBAL, 0, Programs.PUSH, 0,
            Programs.INTEGER, 77, Programs.SET_FIELD, 0, Programs.NULL, 0);
        machine.run(20000);
        makeMore(machine, 28);
        Programs.add(machine, Programs.INTEGER, 2, Programs.ARRAY, 20);
        machine.run(20000);
        dueCounts("a long array", machine, 2, 31, 1);
        machine.look(2, 0);
        machine.into(0);
        Check.due("the object beside a long array", machine.value(), 77);
    }

    private static void arrayFromAFullStack() {
        ValueMachine machine = new ValueMachine();
        for (int k = 0; k < 120; k++) {
            Programs.add(machine, Programs.PUSH, 0);
        }
        Programs.add(machine, Programs.ARRAY, 20);
        machine.run(20000);
        Programs.dueResult("an array from a full stack", machine, 5, 20);
        Check.due("an array from a full stack: the rest", machine.count(2), 100);
    }

    /** An object goes that held another one in field 2; arrays of two that come in its place do not hold it. */
    private static void whatWentHoldsNothing() {
        ValueMachine machine = Programs.ran(
            Programs.OBJECT, 0, Programs.SET_GLOBAL, 0, Programs.OBJECT, 0, Programs.PUSH, 0,
            Programs.GLOBAL, 0, Programs.SET_FIELD, 2);
        makeMore(machine, 28);
        int loop = machine.count(0) + 1;
        Programs.add(machine, Programs.TRAP, loop + 7,
            Programs.GLOBAL, 1, Programs.PUSH, 0, Programs.NULL, 0, Programs.PUSH, 0, Programs.ARRAY, 2,
            Programs.SET_GLOBAL, 1, Programs.GO, loop,
            Programs.NULL, 0, Programs.SET_GLOBAL, 0, Programs.OBJECT, 0);
        machine.run(20000);
        Check.due("what went holds nothing", machine.state(), 1);
        dueCounts("what went holds nothing", machine, 30, 60, 3);
    }

    private static void swept512() {
        ValueMachine machine = Programs.loaded(Programs.OBJECT, 0, Programs.GO, 0);
        for (int k = 0; k < 500; k++) {
            machine.run(20000);
        }
        Check.due("instructions done", machine.count(7), 10000000);
        Check.due("objects made", machine.count(5), 5000000);
        // the first sweep comes with the 31st object, and then one with every 29th
        Check.due("sweeps", machine.count(6), 1 + (5000000 - 31) / 29);
    }
}
