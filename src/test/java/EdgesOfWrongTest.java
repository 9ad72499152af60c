/** What goes wrong, sentence by sentence: each number on both sides, which goes first, traps, and the stop. */
public final class EdgesOfWrongTest extends Edges {
    public static void main(String[] args) {
        anotherSort();
        anotherSortOfTwo();
        anElementThatIsNotThere();
        aStackWithoutSoMany();
        aFullStack();
        fortyNotes();
        theFortyFirstWithTraps();
        byZero();
        noRoom();
        returnWithoutACall();
        untrapWithoutATrap();
        aPlaceThatThereIsNot();
        threeGoesFirst();
        thenTheLeast();
        eachIsTrapped();
        eachSortIsThrownToATrap();
        theStackOfATrap();
        theStackIsNotHigher();
        notesBehindATrap();
        theTrapItselfGoes();
        stoppedAtThatInstruction();
        stoppedWithCallsNoted();
        Check.end();
    }

    // "1 a value of another sort than must be, or a function with another number"

    private static void anotherSort() {
        for (int sort = 0; sort <= 6; sort++) {
            dueSort("FIELD", sort == 4, join(valueOf(sort), of(FIELD, 0)));
            dueSort("SIZE", sort == 5, join(valueOf(sort), of(SIZE, 0)));
            dueSort("CALL", sort == 6, join(valueOf(sort), of(CALL, 0)));
            dueSort("SET FIELD", sort == 4, join(valueOf(sort), of(PUSH, 0, SET_FIELD, 0)));
        }
        int[] two = times(2, PUSH, 0);
        refused("a number below", 1, join(two, of(FUNCTION, 1, CALL, 0)));
        taken("its number", join(two, of(FUNCTION, 1, CALL, 1)));
        refused("a number above", 1, join(two, of(FUNCTION, 1, CALL, 2)));
    }

    private static void dueSort(String what, boolean right, int[] program) {
        if (right) {
            taken(what, program);
        } else {
            refused(what, 1, program);
        }
    }

    private static void anotherSortOfTwo() {
        for (int low = 0; low <= 6; low++) {
            for (int high = 0; high <= 6; high++) {
                int[] two = join(valueOf(low), of(PUSH, 0), valueOf(high));
                boolean integers = low == 3 && high == 3;
                for (int instruction = LESS; instruction <= MOD; instruction++) {
                    dueSort("of integers", integers, join(two, of(instruction, 0)));
                }
                taken("SAME is of any sorts", join(two, of(SAME, 0)));
                if (low != 5 || high != 3) {
                    refused("AT", 1, join(two, of(AT, 0)));
                    refused("SET AT", 1, join(two, of(PUSH, 0, SET_AT, 0)));
                }
            }
        }
    }

    // "2 an element that is not there, an array of more than 20"

    private static void anElementThatIsNotThere() {
        int[] three = of(PUSH, 0, PUSH, 0, PUSH, 0, ARRAY, 3, PUSH, 0);
        for (int k : of(0, 1, 2)) {
            taken("AT", join(three, of(INTEGER, k, AT, 0)));
            taken("SET AT", join(three, of(INTEGER, k, PUSH, 0, SET_AT, 0)));
        }
        for (int k : of(-1, 3)) {
            refused("AT", 2, join(three, of(INTEGER, k, AT, 0)));
            refused("SET AT", 2, join(three, of(INTEGER, k, PUSH, 0, SET_AT, 0)));
        }
        int[] many = times(21, PUSH, 0);
        taken("an array of 20", join(many, of(ARRAY, 20)));
        refused("an array of 21", 2, join(many, of(ARRAY, 21)));
    }

    // "3 a stack without so many values (or x below 0)"

    private static void aStackWithoutSoMany() {
        for (int height = 0; height <= 2; height++) {
            int[] pushes = join(of(FALSE, 0), times(height, PUSH, 0));
            for (int instruction : of(POP, ARRAY)) {
                taken("just so many", join(pushes, of(instruction, height)));
                refused("one too few", 3, join(pushes, of(instruction, height + 1)));
                refused("below 0", 3, join(pushes, of(instruction, -1)));
            }
            for (int instruction : of(STACK, SET_STACK)) {
                if (height > 0) {
                    taken("the lowest one", join(pushes, of(instruction, height - 1)));
                }
                refused("below the lowest one", 3, join(pushes, of(instruction, height)));
                refused("below 0", 3, join(pushes, of(instruction, -1)));
            }
        }
        for (int instruction : of(AT, SET_FIELD, SET_AT, SAME, LESS, ADD, SUB, MUL, DIV, MOD)) {
            refused("without S0", 3, INTEGER, 1, instruction, 0);
        }
        refused("without S1", 3, INTEGER, 0, PUSH, 0, SET_AT, 0);
    }

    // "4 a stack or notes that are full (40 notes of calls and traps together)"

    private static void aFullStack() {
        taken("the 120th", times(120, PUSH, 0));
        refused("the 121st", 4, times(121, PUSH, 0));
        trapped("the 121st", "3:4", times(121, PUSH, 0));
        taken("a full stack holds up nothing else", join(times(120, PUSH, 0), of(OBJECT, 0, ARRAY, 20)));
    }

    private static void fortyNotes() {
        int[] most = calls(39, 0);
        int[] full = calls(40, 0);
        Check.due("39 calls", taken("39 calls", most).count(3), 39);
        Check.due("40 calls", taken("40 calls", full).count(3), 40);
        Check.due("39 calls and a trap", taken("a trap", join(most, of(TRAP, 0))).count(3), 40);
        refused("the 41st is a call", 4, join(full, of(CALL, 0)));
        refused("the 41st is a trap", 4, join(full, of(TRAP, 0)));
        Check.due("40 traps", taken("40 traps", times(40, TRAP, 0)).count(3), 40);
        Check.due("room again", taken("40 traps", join(times(40, TRAP, 0), of(UNTRAP, 0, TRAP, 0))).count(3), 40);
        Check.due("full notes hold up nothing else", taken("PUSH", join(full, of(PUSH, 0, OBJECT, 0))).count(3), 40);
    }

    private static void theFortyFirstWithTraps() {
        dueToTrap("a trap behind 40 traps", join(times(40, TRAP, 1), of(TRAP, 0)), 39);
        dueToTrap("a call behind 40 traps", join(of(FUNCTION, 0), times(40, TRAP, 1), of(CALL, 0)), 39);
        int[] mixed = join(times(20, TRAP, 1), calls(20, 20));
        dueToTrap("a call behind 20 traps and 20 calls", join(mixed, of(CALL, 0)), 19);
        dueToTrap("a trap behind 20 traps and 20 calls", join(mixed, of(TRAP, 0)), 19);
        int[] last = join(calls(39, 0), of(TRAP, 1));
        dueToTrap("a call behind 39 calls and a trap", join(last, of(CALL, 0)), 39);
        dueToTrap("a trap behind 39 calls and a trap", join(last, of(TRAP, 0)), 39);
    }

    /** The last instruction goes wrong with 4, and the latest trap leads to 1. */
    private static void dueToTrap(String what, int[] program, int notes) {
        ValueMachine machine = after(steps(program) - 1, program);
        Check.due(what + ": 40 notes", machine.count(3), 40);
        Check.due(what + ": nothing is wrong", machine.count(8), 0);
        machine.run(1);
        Check.due(what + ": it is wrong", machine.count(8), 1);
        Programs.dueResult(what, machine, 3, 4);
        Check.due(what + ": notes", machine.count(3), notes);
        Check.due(what + ": the trap's place", machine.count(1), 1);
    }

    // "5 DIV, MOD by 0"

    private static void byZero() {
        for (int left : of(MIN, -1, 0, 1, MAX)) {
            for (int instruction : of(DIV, MOD)) {
                int[] start = of(INTEGER, left, PUSH, 0);
                taken("by -1", join(start, of(INTEGER, -1, instruction, 0)));
                refused("by 0", 5, join(start, of(INTEGER, 0, instruction, 0)));
                taken("by 1", join(start, of(INTEGER, 1, instruction, 0)));
            }
        }
        taken("0 by 1", INTEGER, 0, PUSH, 0, INTEGER, 1, DIV, 0);
    }

    // "6 no room for a thing"

    private static void noRoom() {
        int[] kept = times(29, OBJECT, 0, PUSH, 0);
        int[] full = times(30, OBJECT, 0, PUSH, 0);
        taken("the 30th object", join(kept, of(OBJECT, 0)));
        taken("the 30th thing, an array", join(kept, of(ARRAY, 20)));
        refused("no room for an object", 6, join(full, of(OBJECT, 0)));
        refused("no room for an array", 6, join(full, of(ARRAY, 20)));
        refused("no room for an empty array", 6, join(full, of(NULL, 0, ARRAY, 0)));
        taken("no thing, no room needed", join(full, of(FUNCTION, 0)));
    }

    // "7 RETURN without a call that was noted behind the latest trap"

    private static void returnWithoutACall() {
        refused("no note", 7, RETURN, 0);
        refused("no note, and values", 7, PUSH, 0, PUSH, 0, RETURN, 2);
        taken("a call", join(calls(1, 0), of(RETURN, 0)));
        dueSeven("a trap", join(of(TRAP, 0), of(RETURN, 0)), 0);
        dueSeven("a call, a trap", join(calls(1, 0), of(TRAP, 0, RETURN, 0)), 1);
        taken("a trap, a call", join(of(TRAP, 0), calls(1, 1), of(RETURN, 0)));
        taken("a call, a trap that went", join(calls(1, 0), of(TRAP, 0, UNTRAP, 0, RETURN, 0)));
        dueSeven("a trap, a call that went", join(of(TRAP, 0), goneCall(1), of(RETURN, 0)), 0);
        refused("a call that went", 7, join(goneCall(0), of(RETURN, 0)));
    }

    /** Begins at the place: a call that comes back, behind which it goes straight on. */
    private static int[] goneCall(int place) {
        return of(FUNCTION, 8 * (place + 3), CALL, 0, GO, place + 4, RETURN, 0);
    }

    /** The last instruction goes wrong with 7 and the trap leads to 0 with so many notes left. */
    private static void dueSeven(String what, int[] program, int notes) {
        ValueMachine machine = Programs.loaded(program);
        while (machine.count(1) < steps(program) - 1 && machine.count(7) < 100) {
            machine.run(1);
        }
        Check.due(what + ": nothing is wrong", machine.count(8), 0);
        machine.run(1);
        Check.due(what + ": it is wrong", machine.count(8), 1);
        Programs.dueResult(what, machine, 3, 7);
        Check.due(what + ": notes", machine.count(3), notes);
        Check.due(what + ": the trap's place", machine.count(1), 0);
    }

    // "UNTRAP without a trap noted behind the latest call"

    private static void untrapWithoutATrap() {
        refused("no note", 7, UNTRAP, 0);
        taken("a trap", TRAP, 0, UNTRAP, 0);
        refused("a trap that went", 7, TRAP, 0, UNTRAP, 0, UNTRAP, 0);
        refused("a call", 7, join(calls(1, 0), of(UNTRAP, 0)));
        taken("a call, a trap", join(calls(1, 0), of(TRAP, 0, UNTRAP, 0)));
        dueSeven("a trap, a call", join(of(TRAP, 0), calls(1, 1), of(UNTRAP, 0)), 0);
        refused("a call, a trap that went", 7, join(calls(1, 0), of(TRAP, 0, UNTRAP, 0, UNTRAP, 0)));
        int[] program = join(of(TRAP, 0), goneCall(1), of(UNTRAP, 0));
        Check.due("a trap, a call that went", taken("UNTRAP", program).count(3), 0);
    }

    // "8 a place to go to that there is not (it may be the end; IF and UNLESS also when they would not go
    // there), a field or global that there is not, FUNCTION with x below 0"

    private static void aPlaceThatThereIsNot() {
        for (int value : of(TRUE, FALSE)) {
            for (int instruction : of(GO, IF, UNLESS, TRAP)) {
                taken("the beginning", value, 0, instruction, 0);
                taken("the end", value, 0, instruction, 2);
                refused("behind the end", 8, value, 0, instruction, 3);
                refused("before the beginning", 8, value, 0, instruction, -1);
            }
        }
        taken("a function at the end", TRUE, 0, FUNCTION, 2 * 8 + 7);
        refused("a function behind the end", 8, TRUE, 0, FUNCTION, 3 * 8);
        refused("FUNCTION with x below 0", 8, TRUE, 0, FUNCTION, -1);
        taken("the last field", OBJECT, 0, FIELD, 15);
        refused("behind the last field", 8, OBJECT, 0, FIELD, 16);
        refused("before the first field", 8, OBJECT, 0, FIELD, -1);
        taken("the last global", TRUE, 0, SET_GLOBAL, 7, GLOBAL, 7);
        refused("behind the last global", 8, TRUE, 0, GLOBAL, 8);
        refused("before the first global", 8, TRUE, 0, GLOBAL, -1);
    }

    // "(of several things 3 goes first, then the least number)"

    private static void threeGoesFirst() {
        refused("3 and 1: LESS", 3, NULL, 0, LESS, 0);
        refused("3 and 1: SET AT", 3, NULL, 0, PUSH, 0, SET_AT, 0);
        refused("3 and 1: CALL", 3, NULL, 0, CALL, 1);
        refused("3 and 1: CALL of another number", 3, FUNCTION, 1, CALL, 2);
        refused("3 and 1: CALL below 0", 3, FUNCTION, 7, CALL, -1);
        refused("3 and 2: ARRAY", 3, join(times(20, PUSH, 0), of(ARRAY, 21)));
        refused("3 and 4: CALL", 3, join(calls(40, 0), of(FUNCTION, 1, CALL, 1)));
        refused("3, 1 and 4: CALL", 3, join(calls(40, 0), of(NULL, 0, CALL, 1)));
        refused("3 and 5: DIV", 3, INTEGER, 0, DIV, 0);
        refused("3 and 5: MOD", 3, INTEGER, 0, MOD, 0);
        int[] full = times(30, OBJECT, 0, PUSH, 0);
        refused("3 and 6: ARRAY", 3, join(full, of(ARRAY, -1)));
        refused("3, 2 and 6: ARRAY", 3, join(full, of(ARRAY, 31)));
        refused("3 and 7: RETURN", 3, RETURN, 1);
        refused("3 and 7: RETURN", 3, RETURN, -1);
        refused("3 and 8: SET FIELD", 3, OBJECT, 0, SET_FIELD, 16);
        refused("3 and 8: SET FIELD", 3, OBJECT, 0, SET_FIELD, -1);
    }

    private static void thenTheLeast() {
        refused("1, not 2: AT", 1, PUSH, 0, ARRAY, 1, PUSH, 0, FALSE, 0, AT, 0);
        refused("1, not 2: AT", 1, INTEGER, -1, PUSH, 0, AT, 0);
        refused("1, not 2: SET AT", 1, INTEGER, -1, PUSH, 0, PUSH, 0, SET_AT, 0);
        refused("1 and 4: CALL", 1, join(calls(40, 0), of(NULL, 0, CALL, 0)));
        refused("1 and 4: CALL of another number", 1, join(calls(40, 0), of(FUNCTION, 1, CALL, 0)));
        refused("1 and 5: DIV", 1, NULL, 0, PUSH, 0, INTEGER, 0, DIV, 0);
        refused("1 and 5: MOD", 1, TRUE, 0, PUSH, 0, INTEGER, 0, MOD, 0);
        for (int x : of(-1, 16)) {
            refused("1 and 8: FIELD", 1, NULL, 0, FIELD, x);
            refused("1 and 8: FIELD of an array", 1, join(times(20, PUSH, 0), of(ARRAY, 20, FIELD, x)));
            refused("1 and 8: SET FIELD", 1, NULL, 0, PUSH, 0, SET_FIELD, x);
        }
        refused("2 and 6: ARRAY", 2, join(times(30, OBJECT, 0, PUSH, 0), of(ARRAY, 21)));
        for (int x : of(-1, 200)) {
            refused("4 and 8: TRAP", 4, join(calls(40, 0), of(TRAP, x)));
        }
    }

    // "Then nothing of the instruction is done; with a trap noted: .. the accumulator is what went wrong, it
    // goes on at the trap's place"

    private static void eachIsTrapped() {
        trapped("1", "3:1", TRUE, 0, SIZE, 0);
        trapped("1", "3:1", TRUE, 0, PUSH, 0, ADD, 0);
        trapped("2", "3:2", PUSH, 0, PUSH, 0, ARRAY, 1, PUSH, 0, INTEGER, 1, PUSH, 0, TRUE, 0, SET_AT, 0);
        trapped("2", "3:2", join(times(21, PUSH, 0), of(ARRAY, 21)));
        trapped("3", "3:3", TRUE, 0, PUSH, 0, POP, 2);
        trapped("3", "3:3", TRUE, 0, PUSH, 0, RETURN, 2);
        trapped("4", "3:4", join(times(120, PUSH, 0), of(PUSH, 0)));
        trapped("5", "3:5", INTEGER, 3, PUSH, 0, INTEGER, 0, DIV, 0);
        trapped("6", "3:6", join(times(30, OBJECT, 0, PUSH, 0), of(OBJECT, 0)));
        trapped("6", "3:6", join(times(30, OBJECT, 0, PUSH, 0), of(ARRAY, 3)));
        trapped("7", "3:7", PUSH, 0, RETURN, 1);
        trapped("8", "3:8", OBJECT, 0, PUSH, 0, SET_GLOBAL, 1, TRUE, 0, SET_FIELD, 16);
        trapped("8", "3:8", TRUE, 0, SET_GLOBAL, 8);
        trapped("8", "3:8", TRUE, 0, IF, 99);
    }

    private static void eachSortIsThrownToATrap() {
        String[] told = {"0:0", "1:0", "2:0", "3:2", "", "5:1[0:0]", "6:0"};
        for (int sort = 0; sort <= 6; sort++) {
            if (sort != 4) {
                trapped("THROW of sort " + sort, told[sort], join(valueOf(sort), of(THROW, 0)));
            }
        }
        ValueMachine machine = after(4, OBJECT, 0, SET_GLOBAL, 0, TRAP, 0, THROW, 0);
        machine.look(2, 0);
        Check.holds("an object that is thrown is the accumulator", machine.isSame());
    }

    // "the stack becomes as high as it was then (not higher than it is)"

    private static void theStackOfATrap() {
        for (int then : of(0, 1, 2, 119, 120)) {
            for (int now : of(0, 1, then - 1, then, then + 1, 119, 120)) {
                if (now >= 0 && now <= 120) {
                    dueHeight(then, now);
                }
            }
        }
    }

    /** The lower values are FALSE, what comes onto them behind the trap is TRUE. */
    private static void dueHeight(int then, int now) {
        int[] change = now < then ? of(POP, then - now) : times(now - then, PUSH, 0);
        int[] program = join(of(FALSE, 0), times(then, PUSH, 0), of(TRUE, 0, TRAP, 0), change, of(THROW, 0));
        ValueMachine machine = after(steps(program), program);
        String what = "a trap noted at " + then + ", wrong at " + now;
        int due = Math.min(then, now);
        Check.due(what, machine.count(8), 1);
        Check.due(what + ": the stack", machine.count(2), due);
        Check.due(what + ": no more than that", machine.look(1, due), NONE);
        for (int k = 0; k < due; k++) {
            Check.due(what + ": S" + k, machine.look(1, k), 1);
        }
    }

    /** What went from the stack behind the trap does not come back, and what came in its place stays. */
    private static void theStackIsNotHigher() {
        ValueMachine machine = after(9,
            FALSE, 0, PUSH, 0, PUSH, 0, TRAP, 0, POP, 2, TRUE, 0, PUSH, 0, INTEGER, 5, THROW, 0);
        Check.due("one of two", machine.count(2), 1);
        Check.due("the one that came later", machine.look(1, 0), 2);
        ValueMachine refilled = after(10,
            FALSE, 0, PUSH, 0, TRAP, 0, POP, 1, TRUE, 0, PUSH, 0, PUSH, 0, PUSH, 0, INTEGER, 5, THROW, 0);
        Check.due("as high as it was", refilled.count(2), 1);
        Check.due("the one that came later", refilled.look(1, 0), 2);
    }

    // "notes behind it and it go"

    private static void notesBehindATrap() {
        int end = 14;
        int[] program = join(
            calls(1, 0), of(TRAP, end), calls(1, 3), of(TRAP, end), calls(3, 6), of(NULL, 0, THROW, 0),
            of(TRUE, 0, THROW, 0));
        ValueMachine machine = after(13, program);
        Check.due("five calls and two traps", machine.count(3), 7);
        machine.run(1);
        Check.due("the latest trap and the notes behind it go", machine.count(3), 3);
        Check.due("at the trap's place", machine.count(1), end);
        machine.run(2);
        Check.due("the first trap and the call behind it go", machine.count(3), 1);
        Check.due("at the trap's place", machine.count(1), end);
        machine.run(2);
        Check.due("no trap is left", machine.state(), 2);
        Check.due("the first call is still noted", machine.count(3), 1);
        Check.due("three times", machine.count(8), 3);
    }

    /** A trap is for one thing that goes wrong: at its own place the next one finds it gone. */
    private static void theTrapItselfGoes() {
        ValueMachine machine = Programs.loaded(TRAP, 1, GLOBAL, 8);
        machine.run(2);
        Check.due("the trap goes", machine.count(3), 0);
        Check.due("it goes on", machine.state(), 0);
        Check.due("at what went wrong", machine.count(1), 1);
        machine.run(1);
        Programs.dueStop("no trap is left", machine, 8, 1);
        Check.due("twice", machine.count(8), 2);
        ValueMachine end = after(2, TRAP, 2, THROW, 0);
        Check.due("a trap that leads to the end", end.state(), 1);
        Check.due("nothing stopped it", end.look(3, 0), NONE);
    }

    // "Without one the machine is STOPPED by it, at that instruction, all else as it was"

    private static void stoppedAtThatInstruction() {
        refused("the first instruction", 3, POP, 1);
        refused("the 150th instruction", 3, join(times(149, TRUE, 0), of(POP, 1)));
        ValueMachine machine = after(10, TRUE, 0, POP, 1, FALSE, 0);
        Check.due("done before it stopped", machine.count(7), 2);
        Check.due("nothing more is done", machine.run(20000), 0);
        Check.due("still stopped", machine.state(), 2);
        Check.due("the accumulator", machine.look(0, 0), 2);
        machine.code(NULL, 0);
        Check.due("more code does not wake it", machine.run(1), 0);
        machine.reset();
        Check.due("a reset does", machine.state(), 0);
        Check.due("a reset does", machine.run(1), 1);
    }

    private static void stoppedWithCallsNoted() {
        refused("a call is no trap", 1, join(calls(1, 0), of(SIZE, 0)));
        refused("40 calls are no trap", 8, join(calls(40, 0), of(GLOBAL, -1)));
        refused("a trap that went", 8, TRAP, 0, UNTRAP, 0, GLOBAL, -1);
        refused("a trap and a call that went", 8, join(of(TRAP, 0, UNTRAP, 0), calls(2, 2), of(GLOBAL, -1)));
    }
}
