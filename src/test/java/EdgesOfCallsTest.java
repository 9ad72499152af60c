import java.util.function.Consumer;
import java.util.function.Supplier;

/** Promises 1 to 11 on both sides of their edges; a call that is refused leaves all as it was. */
public final class EdgesOfCallsTest extends Edges {
    public static void main(String[] args) {
        newObject();
        codeOfAnInstruction();
        codeCountsUpTo150();
        codeIsRefused();
        clearOfAll();
        resetOfAllButTheCode();
        runOfNumbers();
        runUpTo();
        runOfWhatGoesWrong();
        runLooksAtNull();
        runIsRefused();
        states();
        lookAtTheAccumulator();
        lookAtTheStack();
        lookAtGlobals();
        lookAtWhatStoppedIt();
        lookElsewhere();
        intoFields();
        intoElements();
        intoOthers();
        valueOfEachSort();
        isSameOfTheAccumulator();
        countOfEach();
        countsSinceReset();
        nothingIsChosen();
        askingChangesNothing();
        Check.end();
    }

    // What a machine can be in: at first, going on, done, stopped, with all 150 instructions.

    private static final int[] RICH = join(
        of(INTEGER, 7, PUSH, 0, OBJECT, 0, SET_GLOBAL, 0, PUSH, 0, TRUE, 0, SET_FIELD, 15),
        of(INTEGER, 4, PUSH, 0, INTEGER, 5, PUSH, 0, ARRAY, 2, SET_GLOBAL, 7, PUSH, 0), calls(1, 14));

    private static ValueMachine goesOn() {
        return after(steps(RICH), join(RICH, of(NULL, 0)));
    }

    private static ValueMachine done() {
        return after(20000, join(RICH, of(GLOBAL, 7)));
    }

    private static ValueMachine stopped() {
        return after(20000, join(RICH, of(GLOBAL, 7, THROW, 0, NULL, 0)));
    }

    private static ValueMachine withFullCode() {
        return after(steps(RICH) + 1, join(RICH, of(GLOBAL, 7), times(149 - steps(RICH), NULL, 0)));
    }

    private static void dueAsAtFirst(String what, Supplier<ValueMachine> maker, int instructions) {
        Supplier<ValueMachine> fresh = () -> Programs.loaded(times(instructions, NULL, 0));
        Picture.dueSameBut(what, new Picture(fresh), new Picture(maker));
        ValueMachine machine = maker.get();
        Check.due(what + ": value", machine.value(), 0);
        Check.holds(what + ": NULL is looked at", machine.isSame());
        Check.due(what + ": into", machine.into(0), NONE);
    }

    // "No code."

    private static void newObject() {
        ValueMachine machine = new ValueMachine();
        Check.due("no code", machine.count(0), 0);
        Check.due("no code: done", machine.state(), 1);
        Check.due("no code: run(0)", machine.run(0), 0);
        Check.due("no code: run(20000)", machine.run(20000), 0);
        Check.due("no code: instructions done", machine.count(7), 0);
        dueAsAtFirst("a new object", ValueMachine::new, 0);
        Check.due("another object", Programs.loaded(NULL, 0).count(0), 1);
        Check.due("objects have code of their own", machine.count(0), 0);
    }

    // "IllegalArgumentException when there is no such instruction."

    private static void codeOfAnInstruction() {
        for (int instruction = 0; instruction <= 34; instruction++) {
            for (int x : of(MIN, -1, 0, 1, MAX)) {
                Check.due("code(" + instruction + ", " + x + ")", new ValueMachine().code(instruction, x), 1);
            }
        }
        for (int instruction : of(-1, -2, 35, 36, 150, MIN, MAX)) {
            Check.refuses("code(" + instruction + ")", () -> new ValueMachine().code(instruction, 0));
            Check.refuses("code(" + instruction + ") when full", () -> withFullCode().code(instruction, 0));
        }
    }

    // "An instruction behind the others: how many there are; NONE when there are 150."

    private static void codeCountsUpTo150() {
        ValueMachine machine = new ValueMachine();
        for (int k = 1; k <= 150; k++) {
            Check.due("code number " + k, machine.code(NULL, 0), k);
        }
        Check.due("code number 151", machine.code(NULL, 0), NONE);
        machine.clear();
        Check.due("after a clear", machine.code(NULL, 0), 1);
        ValueMachine reset = withFullCode();
        reset.reset();
        Check.due("after a reset", reset.code(NULL, 0), NONE);
        Check.due("code while it is stopped", stopped().code(NULL, 0), stopped().count(0) + 1);
    }

    private static void codeIsRefused() {
        for (int instruction : of(-1, 35, MIN, MAX)) {
            dueChangesNothing("code(" + instruction + ")", machine -> refuse(() -> machine.code(instruction, 3)));
        }
        Consumer<ValueMachine> oneTooMany = machine -> Check.due("code when full", machine.code(THROW, 3), NONE);
        dueChangesNothing("code when there are 150", EdgesOfCallsTest::withFullCode, oneTooMany);
    }

    private static void refuse(Runnable call) {
        Check.refuses("a refused call", call);
    }

    private static void dueChangesNothing(String what, Consumer<ValueMachine> call) {
        dueChangesNothing(what + ", new", ValueMachine::new, call);
        dueChangesNothing(what + ", going on", EdgesOfCallsTest::goesOn, call);
        dueChangesNothing(what + ", done", EdgesOfCallsTest::done, call);
        dueChangesNothing(what + ", stopped", EdgesOfCallsTest::stopped, call);
        dueChangesNothing(what + ", full", EdgesOfCallsTest::withFullCode, call);
    }

    /** With the call and without it all is the same, and so is what is looked at. */
    private static void dueChangesNothing(String what, Supplier<ValueMachine> maker, Consumer<ValueMachine> call) {
        Supplier<ValueMachine> called = () -> {
            ValueMachine machine = maker.get();
            call.accept(machine);
            return machine;
        };
        Picture.dueSameBut(what, new Picture(maker), new Picture(called));
        for (int where = 0; where <= 3; where++) {
            for (int k : of(0, 1, 7)) {
                ValueMachine looking = maker.get();
                looking.look(where, k);
                ValueMachine other = maker.get();
                other.look(where, k);
                call.accept(other);
                dueLooksAlike(what + " at " + where + ", " + k, looking, other);
            }
        }
    }

    private static void dueLooksAlike(String what, ValueMachine due, ValueMachine machine) {
        Check.due(what + ": value", machine.value(), due.value());
        Check.holds(what + ": isSame", machine.isSame() == due.isSame());
        Check.due(what + ": into(1)", machine.into(1), due.into(1));
        Check.due(what + ": its value", machine.value(), due.value());
        Check.due(what + ": run", machine.run(20000), due.run(20000));
        Check.due(what + ": instructions done", machine.count(7), due.count(7));
    }

    // "No code; all as at first."

    private static void clearOfAll() {
        dueAsAtFirst("clear of a new one", () -> cleared(new ValueMachine()), 0);
        dueAsAtFirst("clear while it goes on", () -> cleared(goesOn()), 0);
        dueAsAtFirst("clear when done", () -> cleared(done()), 0);
        dueAsAtFirst("clear when stopped", () -> cleared(stopped()), 0);
        dueAsAtFirst("clear of 150", () -> cleared(withFullCode()), 0);
        ValueMachine machine = cleared(withFullCode());
        Check.due("a place of the old code", machine.code(GO, 2), 1);
        machine.run(1);
        Programs.dueStop("a place of the old code", machine, 8, 0);
    }

    private static ValueMachine cleared(ValueMachine machine) {
        machine.look(2, 7);
        machine.clear();
        return machine;
    }

    // "All as at first, but for the code; NULL is looked at."

    private static void resetOfAllButTheCode() {
        dueAsAtFirst("reset of a new one", () -> resetOf(new ValueMachine()), 0);
        dueAsAtFirst("reset while it goes on", () -> resetOf(goesOn()), goesOn().count(0));
        dueAsAtFirst("reset when done", () -> resetOf(done()), done().count(0));
        dueAsAtFirst("reset when stopped", () -> resetOf(stopped()), stopped().count(0));
        dueAsAtFirst("reset of 150", () -> resetOf(withFullCode()), 150);
        Supplier<ValueMachine> again = () -> {
            ValueMachine machine = resetOf(stopped());
            machine.run(20000);
            return machine;
        };
        Picture.dueSameBut("the same run again", new Picture(EdgesOfCallsTest::stopped), new Picture(again));
    }

    private static ValueMachine resetOf(ValueMachine machine) {
        machine.look(2, 7);
        machine.reset();
        return machine;
    }

    // "Up to n (0 .. 20000) instructions are done .. IllegalArgumentException when n is not so."

    private static void runOfNumbers() {
        for (int n : of(0, 1, 2, 19999, 20000)) {
            ValueMachine machine = Programs.loaded(NOT, 0, GO, 0);
            Check.due("run(" + n + ")", machine.run(n), n);
            Check.due("run(" + n + "): instructions done", machine.count(7), n);
            Check.due("run(" + n + "): the next", machine.count(1), n % 2);
        }
        for (int n : of(-1, -2, 20001, 20002, MIN, MAX)) {
            Check.refuses("run(" + n + ")", () -> new ValueMachine().run(n));
            Check.refuses("run(" + n + ") going on", () -> goesOn().run(n));
            Check.refuses("run(" + n + ") done", () -> done().run(n));
            Check.refuses("run(" + n + ") stopped", () -> stopped().run(n));
        }
    }

    private static void runUpTo() {
        for (int n = 0; n <= 5; n++) {
            ValueMachine machine = Programs.loaded(times(3, TRUE, 0));
            Check.due("run(" + n + ") of 3", machine.run(n), Math.min(n, 3));
            Check.due("run(" + n + ") of 3: state", machine.state(), n < 3 ? 0 : 1);
            Check.due("run(" + n + ") of 3: the next", machine.count(1), Math.min(n, 3));
            Check.due("run(" + n + ") of 3: the rest", machine.run(20000), 3 - Math.min(n, 3));
        }
    }

    // "(one that goes wrong counts)"

    private static void runOfWhatGoesWrong() {
        for (int n = 0; n <= 4; n++) {
            ValueMachine machine = Programs.loaded(TRUE, 0, SIZE, 0, NULL, 0);
            Check.due("run(" + n + ") of one that stops", machine.run(n), Math.min(n, 2));
            Check.due("run(" + n + "): instructions done", machine.count(7), Math.min(n, 2));
            Check.due("run(" + n + "): times wrong", machine.count(8), n < 2 ? 0 : 1);
            Check.due("run(" + n + "): state", machine.state(), n < 2 ? 0 : 2);
            Check.due("run(" + n + "): no more", machine.run(20000), 2 - Math.min(n, 2));
            Check.due("stopped: no more", machine.run(20000), 0);
        }
        ValueMachine trapped = Programs.loaded(TRAP, 0, THROW, 0);
        Check.due("traps: all count", trapped.run(20000), 20000);
        Check.due("traps: all count", trapped.count(7), 20000);
        Check.due("traps: times wrong", trapped.count(8), 10000);
    }

    // "no value is looked at then (NULL is)"

    private static void runLooksAtNull() {
        for (int n : of(0, 1, 20000)) {
            dueLooksAtNull("going on", goesOn(), n);
            dueLooksAtNull("done", done(), n);
            dueLooksAtNull("stopped", stopped(), n);
        }
    }

    private static void dueLooksAtNull(String what, ValueMachine machine, int n) {
        Check.due(what + ": an array is looked at", machine.look(2, 7), 5);
        Check.due(what + ": an array is looked at", machine.value(), 2);
        machine.run(n);
        Check.due(what + ", run(" + n + "): value", machine.value(), 0);
        Check.due(what + ", run(" + n + "): into", machine.into(0), NONE);
        boolean isNull = machine.look(0, 0) == 0;
        machine.run(0);
        Check.holds(what + ", run(" + n + "): isSame", machine.isSame() == isNull);
    }

    private static void runIsRefused() {
        for (int n : of(-1, 20001, MIN, MAX)) {
            dueChangesNothing("run(" + n + ")", machine -> refuse(() -> machine.run(n)));
        }
    }

    // "0 it goes on, 1 done, 2 stopped"

    private static void states() {
        Check.due("going on", goesOn().state(), 0);
        Check.due("done", done().state(), 1);
        Check.due("stopped", stopped().state(), 2);
        ValueMachine last = Programs.loaded(NULL, 0, THROW, 0);
        last.run(1);
        Check.due("before the last one", last.state(), 0);
        last.run(1);
        Check.due("stopped at the last one", last.state(), 2);
        last.reset();
        Check.due("after a reset", last.state(), 0);
        last.clear();
        Check.due("after a clear", last.state(), 1);
    }

    // "where = 0 the accumulator .. (k not looked at for 0, 3)"

    private static void lookAtTheAccumulator() {
        for (int k : of(MIN, -1, 0, 1, 120, MAX)) {
            Programs.dueAt("the accumulator, k " + k, done(), 0, k, 5, 2);
            Programs.dueAt("the accumulator of a new one", new ValueMachine(), 0, k, 0, 0);
        }
    }

    // "1 Sk"

    private static void lookAtTheStack() {
        Check.due("S0 of an empty stack", new ValueMachine().look(1, 0), NONE);
        for (int height : of(1, 2, 120)) {
            ValueMachine machine = after(height + 1, join(of(TRUE, 0), times(height, PUSH, 0)));
            for (int k : of(0, height - 1)) {
                Check.due("S" + k + " of " + height, machine.look(1, k), 2);
            }
            for (int k : of(height, height + 1, -1, MIN, MAX)) {
                Check.due("S" + k + " of " + height, machine.look(1, k), NONE);
            }
        }
    }

    // "2 global k"

    private static void lookAtGlobals() {
        ValueMachine machine = taken("globals", INTEGER, 3, SET_GLOBAL, 0, INTEGER, 4, SET_GLOBAL, 7);
        Programs.dueAt("global 0", machine, 2, 0, 3, 3);
        Programs.dueAt("global 1", machine, 2, 1, 0, 0);
        Programs.dueAt("global 6", machine, 2, 6, 0, 0);
        Programs.dueAt("global 7", machine, 2, 7, 3, 4);
        for (int k : of(-1, 8, 9, MIN, MAX)) {
            Check.due("global " + k, machine.look(2, k), NONE);
        }
    }

    // "3 what stopped it"

    private static void lookAtWhatStoppedIt() {
        for (int k : of(MIN, -1, 0, 1, MAX)) {
            Programs.dueAt("what stopped it, k " + k, stopped(), 3, k, 5, 2);
            Check.due("a new one", new ValueMachine().look(3, k), NONE);
            Check.due("it goes on", goesOn().look(3, k), NONE);
            Check.due("done", done().look(3, k), NONE);
        }
        ValueMachine trapped = after(2, TRAP, 0, THROW, 0);
        Check.due("trapped", trapped.look(3, 0), NONE);
        Check.due("NULL stopped it", after(1, THROW, 0).look(3, 0), 0);
        Check.due("after a reset", resetOf(stopped()).look(3, 0), NONE);
        Check.due("after a clear", cleared(stopped()).look(3, 0), NONE);
    }

    private static void lookElsewhere() {
        for (int where : of(-1, -2, 4, 5, MIN, MAX)) {
            for (int k : of(-1, 0, 1)) {
                Check.due("look(" + where + ", " + k + ")", stopped().look(where, k), NONE);
            }
        }
    }

    // "Chooses field (or element) k of the value that is looked at: its sort; NONE, .. when there is none such."

    private static ValueMachine lookingAt(ValueMachine machine, int where, int k) {
        machine.look(where, k);
        return machine;
    }

    private static void intoFields() {
        for (int k = 0; k <= 15; k++) {
            Check.due("field " + k, lookingAt(done(), 2, 0).into(k), k == 15 ? 2 : 0);
        }
        for (int k : of(-1, 16, 17, 19, 20, MIN, MAX)) {
            Check.due("field " + k, lookingAt(done(), 2, 0).into(k), NONE);
        }
    }

    private static void intoElements() {
        for (int size : of(0, 1, 2, 20)) {
            int[] program = join(of(TRUE, 0), times(size, PUSH, 0), of(ARRAY, size));
            for (int k : of(0, size - 1, size, size + 1, -1, 19, 20, MIN, MAX)) {
                ValueMachine machine = lookingAt(after(size + 2, program), 0, 0);
                boolean there = k >= 0 && k < size;
                Check.due("element " + k + " of " + size, machine.into(k), there ? 2 : NONE);
            }
        }
    }

    private static void intoOthers() {
        for (int sort : of(0, 1, 2, 3, 6)) {
            for (int k : of(-1, 0, 1, 15, MIN, MAX)) {
                ValueMachine machine = lookingAt(after(1, valueOf(sort)), 0, 0);
                Check.due("into sort " + sort, machine.into(k), NONE);
            }
        }
        Check.due("into a new one", new ValueMachine().into(0), NONE);
    }

    // "an integer itself, an array's size, a function's place * 8 and its number; 0 of others"

    private static void valueOfEachSort() {
        Check.due("value at first", new ValueMachine().value(), 0);
        for (int x : of(MIN, -1, 0, 1, MAX)) {
            Programs.dueResult("an integer", taken("INTEGER", INTEGER, x), 3, x);
        }
        for (int size : of(0, 1, 20)) {
            Programs.dueResult("an array", taken("ARRAY", join(times(size, PUSH, 0), of(ARRAY, size))), 5, size);
        }
        int[] most = times(149, NULL, 0);
        for (int x : of(0, 7, 8, 9, 8 * 149 + 7, 8 * 150, 8 * 150 + 7)) {
            Programs.dueResult("a function", taken("FUNCTION", join(most, of(FUNCTION, x))), 6, x);
        }
        Programs.dueResult("NULL", taken("NULL", NULL, 3), 0, 0);
        Programs.dueResult("FALSE", taken("FALSE", FALSE, 3), 1, 0);
        Programs.dueResult("TRUE", taken("TRUE", TRUE, 3), 2, 0);
        for (int many = 1; many <= 30; many++) {
            Programs.dueResult("an object", taken("OBJECT", times(many, OBJECT, 3)), 4, 0);
        }
    }

    // "Whether the value that is looked at and the accumulator are the same."

    private static void isSameOfTheAccumulator() {
        Check.holds("NULL and NULL at first", new ValueMachine().isSame());
        Check.holds("NULL and TRUE", !after(1, TRUE, 0).isSame());
        Check.holds("NULL and NULL after a run", after(1, NULL, 0).isSame());
        Check.holds("the accumulator and itself", lookingAt(done(), 0, 0).isSame());
        Check.holds("the global that it came from", lookingAt(done(), 2, 7).isSame());
        Check.holds("another thing", !lookingAt(done(), 2, 0).isSame());
        ValueMachine machine = lookingAt(done(), 2, 7);
        machine.into(0);
        Check.holds("an element of it", !machine.isSame());
    }

    // "what = 0 instructions, 1 .., 8 times something went wrong; .. NONE for others"

    private static void countOfEach() {
        int[] due = {19, 17, 2, 1, 2, 2, 0, 18, 1};
        for (int what = 0; what <= 8; what++) {
            Check.due("count(" + what + ") of one that stopped", stopped().count(what), due[what]);
            Check.due("count(" + what + ") of a new one", new ValueMachine().count(what), 0);
        }
        for (int what : of(-1, -2, 9, 10, MIN, MAX)) {
            Check.due("count(" + what + ")", stopped().count(what), NONE);
            Check.due("count(" + what + ") of a new one", new ValueMachine().count(what), NONE);
        }
        Check.due("the one that comes next at the end", done().count(1), done().count(0));
        Check.due("a sweep", after(31, times(31, OBJECT, 0)).count(6), 1);
    }

    // "4 .. 8 since the beginning or the latest reset"

    private static void countsSinceReset() {
        int[] program = join(of(TRAP, 2, THROW, 0), times(31, OBJECT, 0));
        ValueMachine machine = Programs.loaded(program);
        for (int round = 0; round < 3; round++) {
            machine.run(10);
            machine.run(20000);
            int[] due = {33, 33, 0, 0, 2, 31, 1, 33, 1};
            for (int what = 0; what <= 8; what++) {
                Check.due("round " + round + ": count(" + what + ")", machine.count(what), due[what]);
            }
            machine.reset();
            for (int what = 1; what <= 8; what++) {
                Check.due("reset " + round + ": count(" + what + ")", machine.count(what), 0);
            }
        }
    }

    // "NONE, choosing nothing, when there is none such"

    private static void nothingIsChosen() {
        int[][] looks = {{1, -1}, {1, 120}, {2, -1}, {2, 8}, {-1, 0}, {4, 0}, {MAX, 0}, {MIN, 0}};
        for (int[] look : looks) {
            dueChangesNothing("look(" + look[0] + ", " + look[1] + ")",
                machine -> Check.due("look", machine.look(look[0], look[1]), NONE));
        }
        for (int k : of(-1, 20, MIN, MAX)) {
            dueChangesNothing("into(" + k + ")", machine -> Check.due("into", machine.into(k), NONE));
        }
        dueChangesNothing("look(3, 0)", EdgesOfCallsTest::done, machine -> Check.due("look", machine.look(3, 0), NONE));
        dueChangesNothing("look(1, 2)", EdgesOfCallsTest::done, machine -> Check.due("look", machine.look(1, 2), NONE));
        dueNothingIsChosenInside();
    }

    private static void dueNothingIsChosenInside() {
        ValueMachine machine = lookingAt(done(), 2, 0);
        Check.due("behind the last field", machine.into(16), NONE);
        Check.due("the object is still looked at", machine.into(15), 2);
        Check.due("into TRUE", machine.into(0), NONE);
        machine.look(2, 7);
        Check.due("behind the last element", machine.into(2), NONE);
        Check.due("the array is still looked at", machine.value(), 2);
        Check.due("element 1", machine.into(1), 3);
        Check.due("into an integer", machine.into(0), NONE);
        Check.due("the integer is still looked at", machine.value(), 5);
    }

    private static void askingChangesNothing() {
        dueChangesNothing("state", ValueMachine::state);
        dueChangesNothing("value", ValueMachine::value);
        dueChangesNothing("isSame", ValueMachine::isSame);
        dueChangesNothing("count", machine -> {
            for (int what = -1; what <= 9; what++) {
                machine.count(what);
            }
        });
    }
}
