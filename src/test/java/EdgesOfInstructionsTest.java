/** Each of the instructions 0 to 34 on both sides of its edges, in the order of the document. */
public final class EdgesOfInstructionsTest extends Edges {
    public static void main(String[] args) {
        numbersThatAreNotNamed();
        stackAndSetStack();
        at();
        size();
        setAt();
        push();
        pop();
        placesToGoTo();
        placesIn150();
        oneValueForTwo();
        less();
        toZeroLikeJava();
        notOfAllSorts();
        sortOfAllSorts();
        arrayTakesTheTopmost();
        function();
        functionIn150();
        callOfANumber();
        callWithArguments();
        callAtTheEnd();
        returnTakesValues();
        returnGoesBack();
        trapPlaces();
        untrap();
        throwsAnyValue();
        Check.end();
    }

    /** Where an instruction names no x, its number is not looked at. */
    private static void numbersThatAreNotNamed() {
        int[] two = of(INTEGER, 6, PUSH, 0, INTEGER, 3);
        int[] array = of(PUSH, 0, PUSH, 0, ARRAY, 2, PUSH, 0);
        for (int x : of(-1, 1, 150, MIN, MAX)) {
            for (int instruction : of(NULL, FALSE, TRUE, PUSH, NOT, SORT, OBJECT)) {
                taken("no x", instruction, x);
            }
            for (int instruction = SAME; instruction <= MOD; instruction++) {
                taken("no x", join(two, of(instruction, x)));
            }
            taken("no x", join(array, of(INTEGER, 0, AT, x)));
            taken("no x", join(array, of(SIZE, x)));
            taken("no x", join(array, of(INTEGER, 0, PUSH, 0, SET_AT, x)));
            taken("no x", TRAP, 0, UNTRAP, x);
            ValueMachine thrown = after(2, TRUE, 0, THROW, x);
            Check.due("no x: THROW " + x, thrown.look(3, 0), 2);
        }
    }

    // "4 STACK x: Sx", "9 SET STACK x: Sx becomes the accumulator"

    private static void stackAndSetStack() {
        for (int height : of(0, 1, 2, 119, 120)) {
            int[] filled = numbered(height);
            for (int x : of(0, 1, height - 2, height - 1)) {
                if (x >= 0 && x < height) {
                    Programs.dueResult("STACK", taken("STACK", join(filled, of(STACK, x))), 3, height - x);
                    dueSetStack(filled, height, x);
                }
            }
            for (int x : of(height, height + 1, -1, MIN, MAX)) {
                refused("STACK", 3, join(filled, of(STACK, x)));
                refused("SET STACK", 3, join(filled, of(SET_STACK, x)));
            }
        }
    }

    /** Pushes 1, 2, .. up to the height; of many, those in the middle are all 100, as code has an end. */
    private static int[] numbered(int height) {
        if (height < 60) {
            int[] all = times(height, INTEGER, 1, PUSH, 0);
            for (int k = 0; k < height; k++) {
                all[4 * k + 1] = k + 1;
            }
            return all;
        }
        int[] first = numbered(20);
        return join(first, of(INTEGER, 100, PUSH, 0), times(height - 23, PUSH, 0),
            of(INTEGER, height - 1, PUSH, 0, INTEGER, height, PUSH, 0));
    }

    private static void dueSetStack(int[] filled, int height, int x) {
        ValueMachine machine = taken("SET STACK", join(filled, of(TRUE, 0, SET_STACK, x)));
        Check.due("SET STACK " + x + ": as many", machine.count(2), height);
        Check.due("SET STACK " + x + ": the accumulator", machine.look(0, 0), 2);
        for (int k = 0; k < height; k++) {
            Check.due("SET STACK " + x + ": S" + k, machine.look(1, k), k == x ? 2 : 3);
        }
    }

    // "7 AT: element of the array S0 with the integer in the accumulator as its number; S0 goes"

    private static int[] array(int size) {
        return join(numbered(size), of(ARRAY, size, PUSH, 0, SET_GLOBAL, 0));
    }

    private static void at() {
        for (int size : of(0, 1, 2, 20)) {
            for (int k : of(0, size - 1)) {
                if (k >= 0 && k < size) {
                    ValueMachine machine = taken("AT", join(of(PUSH, 0), array(size), of(INTEGER, k, AT, 0)));
                    Programs.dueResult("AT " + k + " of " + size, machine, 3, k + 1);
                    Check.due("AT: S0 alone goes", machine.count(2), 1);
                }
            }
            for (int k : of(-1, size, size + 1, MIN, MAX)) {
                refused("AT of " + size, 2, join(array(size), of(INTEGER, k, AT, 0)));
            }
        }
        refused("AT without S0", 3, INTEGER, 0, AT, 0);
    }

    // "8 SIZE: the number of elements of the array"

    private static void size() {
        for (int size : of(0, 1, 20)) {
            ValueMachine machine = taken("SIZE", join(array(size), of(SIZE, 0)));
            Programs.dueResult("SIZE of " + size, machine, 3, size);
            Check.due("SIZE leaves the stack", machine.count(2), 1);
        }
    }

    // "12 SET AT: the element of the array S1 with the number S0; both go"

    private static void setAt() {
        for (int size : of(0, 1, 2, 20)) {
            for (int k : of(0, size - 1)) {
                if (k >= 0 && k < size) {
                    dueSetAt(size, k);
                }
            }
            for (int k : of(-1, size, size + 1, MIN, MAX)) {
                refused("SET AT of " + size, 2, join(array(size), of(INTEGER, k, PUSH, 0, TRUE, 0, SET_AT, 0)));
            }
        }
        refused("SET AT with S0 alone", 3, INTEGER, 0, PUSH, 0, SET_AT, 0);
        refused("SET AT without S0", 3, INTEGER, 0, SET_AT, 0);
    }

    private static void dueSetAt(int size, int k) {
        ValueMachine machine = taken("SET AT",
            join(of(PUSH, 0), array(size), of(INTEGER, k, PUSH, 0, TRUE, 0, SET_AT, 0)));
        Check.due("SET AT: both go, and they alone", machine.count(2), 1);
        Check.due("SET AT leaves the accumulator", machine.look(0, 0), 2);
        for (int j = 0; j < size; j++) {
            machine.look(2, 0);
            Check.due("SET AT " + k + " of " + size + ": element " + j, machine.into(j), j == k ? 2 : 3);
        }
    }

    // "13 PUSH: the accumulator onto the stack"

    private static void push() {
        for (int height : of(0, 1, 119)) {
            ValueMachine machine = taken("PUSH", join(numbered(height), of(TRUE, 0, PUSH, 0)));
            Check.due("PUSH onto " + height, machine.count(2), height + 1);
            Check.due("PUSH onto " + height + ": S0", machine.look(1, 0), 2);
            Check.due("PUSH onto " + height + ": the accumulator", machine.look(0, 0), 2);
            Check.due("PUSH onto " + height + ": S1", machine.look(1, 1), height == 0 ? NONE : 3);
        }
        refused("PUSH onto 120", 4, join(numbered(120), of(TRUE, 0, PUSH, 0)));
    }

    // "14 POP x: so many go"

    private static void pop() {
        for (int height : of(0, 1, 2, 120)) {
            for (int x : of(0, 1, height - 1, height)) {
                if (x >= 0 && x <= height) {
                    ValueMachine machine = taken("POP", join(numbered(height), of(POP, x)));
                    Check.due("POP " + x + " of " + height, machine.count(2), height - x);
                    Check.due("POP " + x + " of " + height, machine.look(1, 0), x == height ? NONE : 3);
                }
            }
            for (int x : of(height + 1, -1, MIN, MAX)) {
                refused("POP of " + height, 3, join(numbered(height), of(POP, x)));
            }
        }
    }

    // "15 GO x: to instruction x. 16 IF x, 17 UNLESS x: if the accumulator is (is not) TRUE."

    private static void placesToGoTo() {
        for (int sort = 0; sort <= 6; sort++) {
            int[] value = valueOf(sort);
            int place = steps(value);
            int end = place + 2;
            for (int jump : of(GO, IF, UNLESS)) {
                boolean goes = jump == GO || (jump == IF) == (sort == 2);
                for (int x : of(0, 1, place, end)) {
                    ValueMachine machine = after(place + 1, join(value, of(jump, x, NULL, 0)));
                    Check.due("jump " + jump + " of sort " + sort + " to " + x, machine.count(1), goes ? x : place + 1);
                    Check.due("jump " + jump + " of sort " + sort + " leaves it", machine.look(0, 0), sort);
                    Check.due("jump " + jump + ": nothing is wrong", machine.count(8), 0);
                }
                for (int x : of(-1, place + 2, MIN, MAX)) {
                    refused("to a place that there is not", 8, join(value, of(jump, x)));
                }
            }
        }
    }

    private static void placesIn150() {
        int[] most = times(149, TRUE, 0);
        for (int jump : of(GO, IF, TRAP)) {
            ValueMachine machine = taken("150 is the end", join(most, of(jump, 150)));
            Check.due("150 is the end: " + jump, machine.state(), 1);
            taken("149 is the last one", join(most, of(jump, 149)));
            refused("151 is not there", 8, join(most, of(jump, 151)));
        }
    }

    // "18 SAME: of S0 and the accumulator .. S0 goes", "19 LESS: likewise", "20 ADD, .. S0 goes"

    private static void oneValueForTwo() {
        for (int instruction = SAME; instruction <= MOD; instruction++) {
            refused("no S0", 3, INTEGER, 1, instruction, 0);
            ValueMachine one = taken("S0 alone", INTEGER, 1, PUSH, 0, instruction, 0);
            Check.due("S0 goes: " + instruction, one.count(2), 0);
            ValueMachine many = taken("120 values", join(of(INTEGER, 1), times(120, PUSH, 0), of(instruction, 0)));
            Check.due("S0 alone goes: " + instruction, many.count(2), 119);
        }
    }

    private static void less() {
        int[] rising = of(MIN, MIN + 1, -2, -1, 0, 1, 2, MAX - 1, MAX);
        for (int a = 0; a < rising.length; a++) {
            for (int b = 0; b < rising.length; b++) {
                ValueMachine machine = taken("LESS", INTEGER, rising[a], PUSH, 0, INTEGER, rising[b], LESS, 0);
                Check.due(rising[a] + " LESS " + rising[b], machine.look(0, 0), a < b ? 2 : 1);
            }
        }
    }

    // "DIV, MOD to 0 like Java's"

    private static void toZeroLikeJava() {
        int[][] rows = {
            {7, 2, 3, 1}, {-7, 2, -3, -1}, {7, -2, -3, 1}, {-7, -2, 3, -1}, {6, 2, 3, 0}, {-6, 2, -3, 0}, {1, 2, 0, 1},
            {-1, 2, 0, -1}, {0, 5, 0, 0}, {0, -5, 0, 0}, {5, 1, 5, 0}, {5, -1, -5, 0}, {MIN, 2, MIN / 2, 0}};
        for (int[] row : rows) {
            int[] two = of(INTEGER, row[0], PUSH, 0, INTEGER, row[1]);
            Programs.dueResult(row[0] + " DIV " + row[1], taken("DIV", join(two, of(DIV, 0))), 3, row[2]);
            Programs.dueResult(row[0] + " MOD " + row[1], taken("MOD", join(two, of(MOD, 0))), 3, row[3]);
        }
    }

    // "25 NOT: TRUE becomes FALSE, all else TRUE. 26 SORT: the sort as an integer."

    private static void notOfAllSorts() {
        for (int sort = 0; sort <= 6; sort++) {
            ValueMachine machine = taken("NOT", join(valueOf(sort), of(NOT, 0)));
            Check.due("NOT of sort " + sort, machine.look(0, 0), sort == 2 ? 1 : 2);
        }
        Check.due("NOT of 0", taken("NOT", INTEGER, 0, NOT, 0).look(0, 0), 2);
        Check.due("NOT of 1", taken("NOT", INTEGER, 1, NOT, 0).look(0, 0), 2);
    }

    private static void sortOfAllSorts() {
        for (int sort = 0; sort <= 6; sort++) {
            ValueMachine machine = taken("SORT", join(valueOf(sort), of(SORT, 0)));
            Programs.dueResult("SORT", machine, 3, sort);
        }
    }

    // "28 ARRAY x: a new one of the x topmost values of the stack, the topmost one last; they go"

    private static void arrayTakesTheTopmost() {
        for (int height : of(0, 1, 19, 20, 21)) {
            for (int x : of(0, 1, height - 1, height)) {
                if (x >= 0 && x <= height && x <= 20) {
                    dueArray(height, x);
                }
            }
            refused("ARRAY of one too many", 3, join(numbered(height), of(ARRAY, height + 1)));
            refused("ARRAY of -1", 3, join(numbered(height), of(ARRAY, -1)));
            refused("ARRAY of the least", 3, join(numbered(height), of(ARRAY, MIN)));
            refused("ARRAY of the greatest", 3, join(numbered(height), of(ARRAY, MAX)));
        }
    }

    private static void dueArray(int height, int x) {
        String what = "ARRAY " + x + " of " + height;
        ValueMachine machine = taken("ARRAY", join(numbered(height), of(ARRAY, x)));
        Programs.dueResult(what, machine, 5, x);
        Check.due(what + ": they go", machine.count(2), height - x);
        for (int k = 0; k < x; k++) {
            machine.look(0, 0);
            machine.into(k);
            Check.due(what + ": element " + k, machine.value(), height - x + 1 + k);
        }
    }

    // "29 FUNCTION x: one with place x / 8 and the number x % 8 (x not below 0; the place must be there)"

    private static void function() {
        for (int size = 1; size <= 3; size++) {
            int[] before = times(size - 1, TRUE, 0);
            for (int x : of(0, 1, 7, 8 * size - 1, 8 * size, 8 * size + 7)) {
                ValueMachine machine = taken("FUNCTION", join(before, of(FUNCTION, x)));
                Programs.dueResult("FUNCTION " + x, machine, 6, x);
            }
            for (int x : of(8 * size + 8, 8 * size + 15, -1, -7, -8, MIN, MAX)) {
                refused("FUNCTION", 8, join(before, of(FUNCTION, x)));
            }
        }
    }

    private static void functionIn150() {
        int[] most = times(149, TRUE, 0);
        Programs.dueResult("FUNCTION 1207", taken("FUNCTION", join(most, of(FUNCTION, 1207))), 6, 1207);
        refused("FUNCTION of a place behind the end", 8, join(most, of(FUNCTION, 1208)));
    }

    // "30 CALL x: of the function in the accumulator, whose number must be x"

    private static void callOfANumber() {
        for (int number = 0; number <= 7; number++) {
            for (int x = 0; x <= 9; x++) {
                int[] program = join(times(9, PUSH, 0), of(FUNCTION, 8 * 2 + number, CALL, x));
                if (x != number) {
                    refused("CALL of a function with " + number, 1, program);
                    continue;
                }
                ValueMachine machine = taken("CALL", program);
                Check.due("CALL: it goes on at its place", machine.count(1), 2);
                Check.due("CALL: noted", machine.count(3), 1);
                Check.due("CALL: the arguments stay", machine.count(2), 9);
                Programs.dueResult("CALL: the accumulator stays", machine, 6, 8 * 2 + number);
            }
        }
    }

    // "its arguments are S0 .. S(x - 1)"

    private static void callWithArguments() {
        for (int x = 0; x <= 7; x++) {
            int[] exact = join(numbered(x), of(FUNCTION, x, CALL, x));
            ValueMachine machine = taken("CALL with just its arguments", exact);
            Check.due("CALL " + x, machine.count(2), x);
            if (x > 0) {
                refused("CALL with one too few", 3, join(numbered(x - 1), of(FUNCTION, x, CALL, x)));
            }
        }
        for (int x : of(-1, -8, MIN)) {
            refused("CALL below 0", 3, FUNCTION, 0, CALL, x);
            refused("CALL below 0", 3, FUNCTION, 7, CALL, x);
        }
    }

    // "where it is (the next instruction) is noted, it goes on at its place"

    private static void callAtTheEnd() {
        ValueMachine back = Programs.loaded(GO, 2, RETURN, 0, FUNCTION, 8, CALL, 0);
        Check.due("a call that is the last instruction", back.run(10), 4);
        Check.due("it comes back to the end", back.count(1), 4);
        Check.due("it comes back to the end", back.state(), 1);
        ValueMachine end = taken("a function at the end", FUNCTION, 16, CALL, 0);
        Check.due("a function at the end", end.state(), 1);
        Check.due("a function at the end", end.count(3), 1);
        ValueMachine first = taken("a function at 0", FUNCTION, 0, CALL, 0);
        Check.due("a function at 0", first.count(1), 0);
    }

    // "31 RETURN x: x values go; back to where the latest call was noted"

    private static void returnTakesValues() {
        for (int height : of(0, 1, 2, 120)) {
            int[] pushes = times(height, PUSH, 0);
            int[] program = join(pushes, calls(1, height));
            for (int x : of(0, 1, height - 1, height)) {
                if (x >= 0 && x <= height) {
                    ValueMachine machine = taken("RETURN", join(program, of(RETURN, x)));
                    Check.due("RETURN " + x + " of " + height, machine.count(2), height - x);
                    Check.due("RETURN " + x + ": the note goes", machine.count(3), 0);
                    Check.due("RETURN " + x + ": back", machine.count(1), height + 2);
                }
            }
            for (int x : of(height + 1, -1, MIN, MAX)) {
                refused("RETURN of " + height, 3, join(program, of(RETURN, x)));
            }
        }
    }

    private static void returnGoesBack() {
        int[] program = of(FUNCTION, 24, CALL, 0, NULL, 0, FUNCTION, 48, CALL, 0, NULL, 0, RETURN, 0);
        ValueMachine machine = after(4, program);
        Check.due("two calls", machine.count(3), 2);
        Check.due("in the second function", machine.count(1), 6);
        machine.run(1);
        Check.due("behind the latest call", machine.count(1), 5);
        Check.due("the first call is left", machine.count(3), 1);
        machine.run(2);
        Check.due("behind the first call", machine.count(1), 2);
        Check.due("no call is left", machine.count(3), 0);
    }

    // "32 TRAP x: it is noted that what goes wrong from now on leads to x"

    private static void trapPlaces() {
        for (int x : of(0, 1, 2, 3)) {
            ValueMachine machine = Programs.loaded(NULL, 0, TRAP, x, THROW, 0);
            machine.run(2);
            Check.due("TRAP " + x + ": noted", machine.count(3), 1);
            Check.due("TRAP " + x + ": the next one comes", machine.count(1), 2);
            machine.run(1);
            Check.due("TRAP " + x + ": it leads there", machine.count(1), x);
            Check.due("TRAP " + x + ": the end or not", machine.state(), x == 3 ? 1 : 0);
        }
        for (int x : of(-1, 3, MIN, MAX)) {
            refused("TRAP", 8, NULL, 0, TRAP, x);
        }
    }

    // "33 UNTRAP: the latest such note goes"

    private static void untrap() {
        ValueMachine machine = taken("UNTRAP", TRAP, 0, TRAP, 1, UNTRAP, 0);
        Check.due("one trap is left", machine.count(3), 1);
        Programs.add(machine, THROW, 0);
        machine.run(1);
        Check.due("the earlier trap is left", machine.count(1), 0);
        refused("UNTRAP without a trap", 7, UNTRAP, 0);
        refused("UNTRAP once too often", 7, TRAP, 0, UNTRAP, 0, UNTRAP, 0);
    }

    // "34 THROW: the accumulator goes wrong"

    private static void throwsAnyValue() {
        for (int sort = 0; sort <= 6; sort++) {
            int[] program = join(valueOf(sort), of(THROW, 0));
            ValueMachine machine = after(steps(program), program);
            Check.due("THROW of sort " + sort, machine.state(), 2);
            Check.due("THROW of sort " + sort, machine.look(3, 0), sort);
            Check.holds("THROW of sort " + sort + ": the accumulator stays", machine.isSame());
            Check.due("THROW of sort " + sort + ": at it", machine.count(1), steps(program) - 1);
        }
    }
}
