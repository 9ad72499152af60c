/** The room for 30 things, sentence by sentence: when it is swept, what goes, and what can be come to. */
public final class EdgesOfRoomTest extends Edges {
    public static void main(String[] args) {
        atMost30Things();
        sweptWhenThereAre30();
        sweptAgain();
        keptByNothing();
        thirtyKept();
        wrongArraysAreNotMade();
        fromTheAccumulator();
        fromTheStack();
        fromGlobals();
        byFields();
        byElements();
        byAChain();
        byARing();
        byItself();
        whatIsLookedAtKeepsNothing();
        whatWentKeepsNothing();
        whatATrapTookKeepsNothing();
        whatWasThrownIsKept();
        valuesThatANewArrayTakes();
        aNewArrayFillsTheRoom();
        newThingsAreNew();
        noRoomUntilATrap();
        anewAfterReset();
        Check.end();
    }

    // "there are at most 30 things. When one is made and there are 30, it is SWEPT"

    private static void atMost30Things() {
        for (int many : of(0, 1, 29, 30)) {
            dueCounts(many + " objects", after(many, times(many, OBJECT, 0)), many, many, 0);
            dueCounts(many + " arrays", after(many, times(many, ARRAY, 0)), many, many, 0);
        }
        ValueMachine machine = Programs.loaded(OBJECT, 0, PUSH, 0, ARRAY, 1, GO, 0);
        for (int k = 0; k < 200; k++) {
            machine.run(1);
            Check.holds("at most 30 things", machine.count(4) <= 30);
        }
    }

    private static void sweptWhenThereAre30() {
        for (int instruction : of(OBJECT, ARRAY)) {
            ValueMachine machine = after(30, times(31, instruction, 0));
            dueCounts("30 things", machine, 30, 30, 0);
            machine.run(1);
            // what the accumulator held is kept, as the new thing is not there yet
            dueCounts("the 31st", machine, 2, 31, 1);
        }
        ValueMachine mixed = after(32, join(times(15, OBJECT, 0, ARRAY, 0), of(NULL, 0, OBJECT, 0)));
        dueCounts("objects and arrays together", mixed, 1, 31, 1);
    }

    private static void sweptAgain() {
        ValueMachine machine = after(31 + 28, times(62, OBJECT, 0));
        dueCounts("full again", machine, 30, 59, 1);
        machine.run(1);
        dueCounts("swept again", machine, 2, 60, 2);
    }

    // "all things go that can't be come to"

    private static void keptByNothing() {
        for (int instruction : of(OBJECT, ARRAY)) {
            ValueMachine machine = taken("all go", join(times(30, OBJECT, 0), of(NULL, 0, instruction, 0)));
            dueCounts("all go", machine, 1, 31, 1);
        }
    }

    private static void thirtyKept() {
        int[] kept = times(29, OBJECT, 0, PUSH, 0);
        for (int instruction : of(OBJECT, ARRAY)) {
            ValueMachine machine = taken("29 are kept", join(kept, of(OBJECT, 0, NULL, 0, instruction, 0)));
            dueCounts("29 are kept", machine, 30, 31, 1);
            refused("30 are kept", 6, join(kept, of(OBJECT, 0, PUSH, 0, NULL, 0, instruction, 0)));
            refused("30 are kept, one by the accumulator", 6, join(kept, of(OBJECT, 0, instruction, 0)));
        }
        int[] full = join(kept, of(OBJECT, 0, PUSH, 0, OBJECT, 0));
        dueCounts("no room", after(steps(full), full), 30, 30, 1);
    }

    /** An array that goes wrong with 3 or 2 is not made, so it is not swept; what can't be come to stays. */
    private static void wrongArraysAreNotMade() {
        int[] full = join(times(21, PUSH, 0), times(30, OBJECT, 0), of(NULL, 0));
        for (int x : of(-1, 21, 22)) {
            refused("ARRAY when there are 30", x == 21 ? 2 : 3, join(full, of(ARRAY, x)));
        }
        ValueMachine machine = taken("ARRAY when there are 30", join(full, of(ARRAY, 20)));
        dueCounts("ARRAY when there are 30", machine, 1, 31, 1);
    }

    /** So many things more, none of them kept, and then one that is made when there are 30. */
    private static int[] sweep(int there) {
        return join(of(NULL, 0), times(30 - there, OBJECT, 0), of(NULL, 0, OBJECT, 0));
    }

    /** The program makes so many things; then it is swept, and so many of them are kept. */
    private static ValueMachine dueKept(String what, int made, int kept, int[] program) {
        ValueMachine machine = taken(what, join(program, sweep(made)));
        dueCounts(what, machine, kept + 1, 31, 1);
        return machine;
    }

    // "from the accumulator, the stack, globals"

    private static void fromTheAccumulator() {
        ValueMachine machine = taken("the accumulator", join(times(29, OBJECT, 0), of(PUSH, 0, ARRAY, 1, ARRAY, 0)));
        // the latest array, the one before it that the accumulator held, and the object in that
        dueCounts("the accumulator", machine, 3, 31, 1);
    }

    private static void fromTheStack() {
        dueKept("S0", 1, 1, of(OBJECT, 0, PUSH, 0));
        dueKept("one that was set", 1, 1, of(PUSH, 0, PUSH, 0, OBJECT, 0, SET_STACK, 1));
        int[] lowest = join(of(OBJECT, 0, PUSH, 0, NULL, 0), times(106, PUSH, 0), sweep(1));
        ValueMachine low = taken("below 106 others", lowest);
        dueCounts("below 106 others", low, 2, 31, 1);
        dueOnAFullStack();
    }

    /** A loop fills the room, as code has an end: the lowest and the topmost of 120 values are kept. */
    private static void dueOnAFullStack() {
        ValueMachine machine = Programs.loaded(join(
            of(OBJECT, 0, PUSH, 0, NULL, 0), times(118, PUSH, 0), of(OBJECT, 0, PUSH, 0, NULL, 0, OBJECT, 0, GO, 123)));
        machine.run(123 + 3 * 28);
        dueCounts("a full stack", machine, 30, 30, 0);
        Check.due("a full stack", machine.count(2), 120);
        machine.run(2);
        dueCounts("S0 and S119 are kept", machine, 3, 31, 1);
        Check.due("S0", machine.look(1, 0), 4);
        Check.due("S119", machine.look(1, 119), 4);
    }

    private static void fromGlobals() {
        for (int k = 0; k <= 7; k++) {
            ValueMachine machine = dueKept("global " + k, 1, 1, of(OBJECT, 0, SET_GLOBAL, k));
            Check.due("global " + k, machine.look(2, k), 4);
        }
    }

    // "by fields and elements"

    private static void byFields() {
        for (int x = 0; x <= 15; x++) {
            ValueMachine machine = dueKept("field " + x, 2, 2,
                of(OBJECT, 0, PUSH, 0, SET_GLOBAL, 0, OBJECT, 0, SET_FIELD, x));
            machine.look(2, 0);
            Check.due("field " + x + " is kept", machine.into(x), 4);
        }
    }

    private static void byElements() {
        for (int k = 0; k < 20; k++) {
            ValueMachine machine = dueKept("element " + k, 2, 2,
                join(times(20, PUSH, 0), of(OBJECT, 0, SET_STACK, 19 - k, ARRAY, 20, SET_GLOBAL, 7)));
            machine.look(2, 7);
            Check.due("element " + k + " is kept", machine.into(k), 4);
        }
        dueKept("20 elements", 21, 21, join(times(20, OBJECT, 0, PUSH, 0), of(ARRAY, 20, PUSH, 0)));
        dueKept("an empty array", 1, 1, of(ARRAY, 0, PUSH, 0));
    }

    /** Each array holds the one before it: the last one keeps all of them. */
    private static void byAChain() {
        int[] chain = join(of(ARRAY, 0), times(28, PUSH, 0, ARRAY, 1), of(SET_GLOBAL, 0));
        dueKept("a chain of 29", 29, 29, chain);
        int[] full = join(of(ARRAY, 0), times(29, PUSH, 0, ARRAY, 1), of(SET_GLOBAL, 0, NULL, 0, OBJECT, 0));
        refused("a chain of 30", 6, full);
        int[] let = join(of(ARRAY, 0), times(28, PUSH, 0, ARRAY, 1), of(SET_GLOBAL, 0, NULL, 0, SET_GLOBAL, 0));
        dueKept("a chain that nothing comes to", 29, 0, let);
    }

    /** Two objects, each with the other in field 15, the second in global 0. */
    private static int[] ring() {
        return of(OBJECT, 0, SET_GLOBAL, 1, OBJECT, 0, SET_GLOBAL, 0, PUSH, 0, GLOBAL, 1, SET_FIELD, 15,
            PUSH, 0, GLOBAL, 0, SET_FIELD, 15, NULL, 0, SET_GLOBAL, 1);
    }

    private static void byARing() {
        ValueMachine machine = dueKept("a ring", 2, 2, ring());
        machine.look(2, 0);
        for (int k = 0; k < 3; k++) {
            Check.due("round the ring", machine.into(15), 4);
        }
        dueKept("a ring that nothing comes to", 2, 0, join(ring(), of(SET_GLOBAL, 0)));
    }

    private static void byItself() {
        int[] object = of(OBJECT, 0, PUSH, 0, PUSH, 0, SET_FIELD, 0);
        dueKept("an object in itself", 1, 1, object);
        dueKept("an object in itself alone", 1, 0, join(object, of(POP, 1)));
        int[] array = of(PUSH, 0, ARRAY, 1, SET_GLOBAL, 0, PUSH, 0, INTEGER, 0, PUSH, 0, GLOBAL, 0, SET_AT, 0);
        dueKept("an array in itself", 1, 1, array);
        dueKept("an array in itself alone", 1, 0, join(array, of(NULL, 0, SET_GLOBAL, 0)));
    }

    private static void whatIsLookedAtKeepsNothing() {
        int[] program = join(of(OBJECT, 0), sweep(1));
        ValueMachine machine = Programs.loaded(program);
        machine.run(1);
        Check.due("an object is looked at", machine.look(0, 0), 4);
        machine.run(steps(program));
        dueCounts("what is looked at", machine, 1, 31, 1);
        Check.due("NULL is looked at", machine.into(0), NONE);
    }

    private static void whatWentKeepsNothing() {
        dueKept("what was popped", 1, 0, of(OBJECT, 0, PUSH, 0, POP, 1));
        dueKept("a global that was set anew", 1, 0, of(OBJECT, 0, SET_GLOBAL, 3, NULL, 0, SET_GLOBAL, 3));
        dueKept("a place of the stack that was set anew", 1, 0, of(OBJECT, 0, PUSH, 0, NULL, 0, SET_STACK, 0));
        dueKept("a field that was set anew", 2, 1, of(
            OBJECT, 0, SET_GLOBAL, 0, PUSH, 0, OBJECT, 0, SET_FIELD, 0, GLOBAL, 0, PUSH, 0, NULL, 0, SET_FIELD, 0));
        dueKept("an element that was set anew", 2, 1, of(
            OBJECT, 0, PUSH, 0, ARRAY, 1, PUSH, 0, SET_GLOBAL, 0, INTEGER, 0, PUSH, 0, SET_AT, 0));
        dueKept("what SAME took", 1, 0, of(OBJECT, 0, PUSH, 0, SAME, 0));
        dueKept("the array that AT took", 1, 0, of(PUSH, 0, ARRAY, 1, PUSH, 0, INTEGER, 0, AT, 0));
        dueKept("the object that SET FIELD took", 1, 0, of(OBJECT, 0, PUSH, 0, SET_FIELD, 0));
        dueKept("what RETURN took", 1, 0, of(OBJECT, 0, PUSH, 0, FUNCTION, 40, CALL, 0, GO, 6, RETURN, 1));
    }

    private static void whatATrapTookKeepsNothing() {
        int[] program = join(of(TRAP, 5, OBJECT, 0, PUSH, 0, NULL, 0, THROW, 0), sweep(1));
        ValueMachine machine = after(steps(program), program);
        dueCounts("what a trap took from the stack", machine, 1, 31, 1);
        Check.due("what a trap took", machine.count(8), 1);
    }

    private static void whatWasThrownIsKept() {
        int[] program = join(times(29, OBJECT, 0), of(TRAP, 31, THROW, 0, ARRAY, 0, ARRAY, 0));
        ValueMachine machine = after(31, program);
        dueCounts("29 things, the last one thrown", machine, 29, 29, 0);
        machine.run(1);
        dueCounts("the 30th", machine, 30, 30, 0);
        int[] thrown = join(times(30, OBJECT, 0), of(TRAP, 32, THROW, 0, ARRAY, 0));
        ValueMachine kept = after(33, thrown);
        dueCounts("what was thrown is in the accumulator", kept, 2, 31, 1);
    }

    // "of the values that a new array takes, too, as they lie on the stack"

    private static void valuesThatANewArrayTakes() {
        for (int x : of(1, 2, 20)) {
            int[] program = join(times(x, OBJECT, 0, PUSH, 0), times(30 - x, OBJECT, 0), of(NULL, 0, ARRAY, x));
            ValueMachine machine = taken("the values of a new array", program);
            dueCounts("the values of a new array of " + x, machine, x + 1, 31, 1);
            for (int k = 0; k < x; k++) {
                machine.look(0, 0);
                Check.due("element " + k + " of " + x, machine.into(k), 4);
            }
        }
    }

    private static void aNewArrayFillsTheRoom() {
        int[] kept = join(times(29, OBJECT, 0, PUSH, 0), of(OBJECT, 0, NULL, 0));
        ValueMachine machine = taken("29 are kept, 20 of them by the new array", join(kept, of(ARRAY, 20)));
        dueCounts("29 are kept, 20 of them by the new array", machine, 30, 31, 1);
        Check.due("9 are left on the stack", machine.count(2), 9);
        int[] full = join(times(30, OBJECT, 0, PUSH, 0), of(NULL, 0));
        refused("30 are kept, 20 of them for the new array", 6, join(full, of(ARRAY, 20)));
        refused("30 are kept, 1 of them for the new array", 6, join(full, of(ARRAY, 1)));
    }

    /** "Objects have FIELDS .., each with a value (NULL at first)": also where another thing was. */
    private static void newThingsAreNew() {
        ValueMachine machine = new ValueMachine();
        Programs.add(machine, OBJECT, 0, SET_GLOBAL, 0);
        for (int k = 0; k < 16; k++) {
            Programs.add(machine, GLOBAL, 0, PUSH, 0, TRUE, 0, SET_FIELD, k);
        }
        Programs.add(machine, GO, 0);
        machine.run(67 * 30 + 1);
        for (int round = 0; round < 3; round++) {
            for (int k = 0; k < 16; k++) {
                machine.look(0, 0);
                Check.due("field " + k + " of a new object", machine.into(k), 0);
            }
            machine.run(67);
        }
        Check.holds("swept", machine.count(6) > 0);
    }

    /** With 6 a trap takes the stack down, and then there is room when it is swept again. */
    private static void noRoomUntilATrap() {
        ValueMachine machine = Programs.loaded(TRAP, 4, OBJECT, 0, PUSH, 0, GO, 1, OBJECT, 0);
        machine.run(1 + 3 * 30 + 1);
        Programs.dueResult("no room", machine, 3, 6);
        dueCounts("no room", machine, 30, 30, 1);
        machine.run(1);
        dueCounts("room", machine, 1, 31, 2);
    }

    private static void anewAfterReset() {
        ValueMachine machine = after(33, times(33, OBJECT, 0));
        dueCounts("33 objects", machine, 4, 33, 1);
        machine.reset();
        dueCounts("reset", machine, 0, 0, 0);
        machine.run(30);
        dueCounts("30 objects after a reset", machine, 30, 30, 0);
        machine.run(1);
        dueCounts("31 objects after a reset", machine, 2, 31, 1);
        machine.clear();
        dueCounts("clear", machine, 0, 0, 0);
        Programs.add(machine, times(31, OBJECT, 0));
        machine.run(30);
        dueCounts("30 objects after a clear", machine, 30, 30, 0);
        machine.run(1);
        dueCounts("31 objects after a clear", machine, 2, 31, 1);
    }
}
