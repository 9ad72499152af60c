import java.util.ArrayList;
import java.util.Collections;
import java.util.IdentityHashMap;
import java.util.List;
import java.util.Set;
import java.util.TreeSet;

/**
 * A second machine, as the document tells it, to compare answers with. It is written in another way:
 * things are Java objects, and of an instruction all that is wrong is gathered first, then one chosen.
 */
final class Model {
    static final class Thing {
        final int sort;
        final Val[] parts;

        Thing(int sort, int size) {
            this.sort = sort;
            parts = new Val[size];
            java.util.Arrays.fill(parts, new Val(0, 0, null));
        }
    }

    record Val(int sort, int number, Thing thing) {
        boolean same(Val other) {
            return sort == other.sort && number == other.number && thing == other.thing;
        }

        static Val integer(int number) {
            return new Val(3, number, null);
        }

        static Val truth(boolean holds) {
            return new Val(holds ? 2 : 1, 0, null);
        }
    }

    private record Note(boolean trap, int place, int height) {
    }

    private static final Val NULL = new Val(0, 0, null);

    private final List<int[]> program = new ArrayList<>();
    private final List<Val> stack = new ArrayList<>();
    private final List<Note> notes = new ArrayList<>();
    private final Val[] globals = new Val[8];
    private Set<Thing> things = fresh();
    private Val accumulator;
    private Val looked;
    private Val stop;
    private int next;
    private final int[] counts = new int[9];
    /** How often there was no room, of all programs of this object. */
    int noRooms = 0;

    Model() {
        reset();
    }

    private static Set<Thing> fresh() {
        return Collections.newSetFromMap(new IdentityHashMap<>());
    }

    int code(int instruction, int x) {
        if (instruction < 0 || instruction > 34) {
            throw new IllegalArgumentException();
        }
        if (program.size() == 150) {
            return -1;
        }
        program.add(new int[] {instruction, x});
        return program.size();
    }

    void clear() {
        program.clear();
        reset();
    }

    void reset() {
        stack.clear();
        notes.clear();
        java.util.Arrays.fill(globals, NULL);
        java.util.Arrays.fill(counts, 0);
        things = fresh();
        accumulator = NULL;
        looked = NULL;
        stop = null;
        next = 0;
    }

    int run(int n) {
        if (n < 0 || n > 20000) {
            throw new IllegalArgumentException();
        }
        looked = NULL;
        for (int k = 0; k < n; k++) {
            if (state() != 0) {
                return k;
            }
            counts[7]++;
            step(program.get(next)[0], program.get(next)[1]);
        }
        return n;
    }

    int state() {
        return stop != null ? 2 : next == program.size() ? 1 : 0;
    }

    int look(int where, int k) {
        Val found = null;
        if (where == 0) {
            found = accumulator;
        } else if (where == 1 && k >= 0 && k < stack.size()) {
            found = s(k);
        } else if (where == 2 && k >= 0 && k < 8) {
            found = globals[k];
        } else if (where == 3) {
            found = stop;
        }
        return chosen(found);
    }

    int into(int k) {
        boolean there = looked.thing != null && k >= 0 && k < looked.thing.parts.length;
        return chosen(there ? looked.thing.parts[k] : null);
    }

    private int chosen(Val found) {
        if (found == null) {
            return -1;
        }
        looked = found;
        return found.sort;
    }

    int value() {
        return looked.sort == 5 ? looked.thing.parts.length : looked.number;
    }

    boolean isSame() {
        return looked.same(accumulator);
    }

    int count(int what) {
        switch (what) {
            case 0: return program.size();
            case 1: return next;
            case 2: return stack.size();
            case 3: return notes.size();
            case 4: return things.size();
            default: return what < 0 || what > 8 ? -1 : counts[what];
        }
    }

    private Val s(int k) {
        return stack.get(stack.size() - 1 - k);
    }

    private void go(int many) {
        for (int k = 0; k < many; k++) {
            stack.remove(stack.size() - 1);
        }
    }

    /** How many values the instruction needs on the stack; -1 for what no stack can have. */
    private int needs(int instruction, int x) {
        switch (instruction) {
            case 4: case 9: return x < 0 ? -1 : x == Integer.MAX_VALUE ? x : x + 1;
            case 14: case 28: case 30: case 31: return Math.max(x, -1);
            case 7: case 11: case 18: case 19: case 20: case 21: case 22: case 23: case 24: return 1;
            case 12: return 2;
            default: return 0;
        }
    }

    /** All that is wrong with the instruction now, but for 6. */
    Set<Integer> faults(int instruction, int x) {
        Set<Integer> all = new TreeSet<>();
        int needs = needs(instruction, x);
        if (needs < 0 || needs > stack.size()) {
            all.add(3);
        }
        Val top = stack.isEmpty() ? null : s(0);
        Val below = stack.size() < 2 ? null : s(1);
        Note last = notes.isEmpty() ? null : notes.get(notes.size() - 1);
        boolean place = x >= 0 && x <= program.size();
        if (instruction == 5 || instruction == 10) {
            add(all, 8, x < 0 || x > 7);
        } else if (instruction == 6) {
            add(all, 1, accumulator.sort != 4);
            add(all, 8, x < 0 || x > 15);
        } else if (instruction == 7) {
            element(all, top, accumulator);
        } else if (instruction == 8) {
            add(all, 1, accumulator.sort != 5);
        } else if (instruction == 11) {
            add(all, 1, top == null || top.sort != 4);
            add(all, 8, x < 0 || x > 15);
        } else if (instruction == 12) {
            element(all, below, top);
        } else if (instruction == 13) {
            add(all, 4, stack.size() == 120);
        } else if (instruction >= 15 && instruction <= 17) {
            add(all, 8, !place);
        } else if (instruction >= 19 && instruction <= 24) {
            add(all, 1, top == null || top.sort != 3 || accumulator.sort != 3);
            add(all, 5, instruction >= 23 && accumulator.sort == 3 && accumulator.number == 0);
        } else if (instruction == 28) {
            add(all, 2, x > 20);
        } else if (instruction == 29) {
            add(all, 8, x < 0 || x / 8 > program.size());
        } else if (instruction == 30) {
            add(all, 1, accumulator.sort != 6 || accumulator.number % 8 != x);
            add(all, 4, notes.size() == 40);
        } else if (instruction == 31) {
            add(all, 7, last == null || last.trap);
        } else if (instruction == 32) {
            add(all, 8, !place);
            add(all, 4, notes.size() == 40);
        } else if (instruction == 33) {
            add(all, 7, last == null || !last.trap);
        }
        return all;
    }

    private static void add(Set<Integer> all, int fault, boolean holds) {
        if (holds) {
            all.add(fault);
        }
    }

    private static void element(Set<Integer> all, Val array, Val index) {
        boolean sorts = array != null && array.sort == 5 && index.sort == 3;
        add(all, 1, !sorts);
        add(all, 2, sorts && (index.number < 0 || index.number >= array.thing.parts.length));
    }

    private void step(int instruction, int x) {
        Set<Integer> wrong = faults(instruction, x);
        if (wrong.isEmpty() && (instruction == 27 || instruction == 28)) {
            add(wrong, 6, !room());
            noRooms += wrong.size();
        }
        if (instruction == 34) {
            goWrong(accumulator);
        } else if (wrong.contains(3)) {
            goWrong(Val.integer(3));
        } else if (!wrong.isEmpty()) {
            goWrong(Val.integer(wrong.iterator().next()));
        } else {
            next++;
            perform(instruction, x);
        }
    }

    private void goWrong(Val what) {
        counts[8]++;
        int trap = notes.size() - 1;
        while (trap >= 0 && !notes.get(trap).trap) {
            trap--;
        }
        if (trap < 0) {
            stop = what;
            return;
        }
        Note note = notes.get(trap);
        while (stack.size() > note.height) {
            go(1);
        }
        while (notes.size() > trap) {
            notes.remove(notes.size() - 1);
        }
        accumulator = what;
        next = note.place;
    }

    private boolean room() {
        if (things.size() == 30) {
            counts[6]++;
            Set<Thing> kept = fresh();
            keep(kept, accumulator);
            stack.forEach(v -> keep(kept, v));
            for (Val v : globals) {
                keep(kept, v);
            }
            things = kept;
        }
        return things.size() < 30;
    }

    private static void keep(Set<Thing> kept, Val value) {
        if (value.thing != null && kept.add(value.thing)) {
            for (Val part : value.thing.parts) {
                keep(kept, part);
            }
        }
    }

    private Val made(int sort, int size) {
        Thing thing = new Thing(sort, size);
        things.add(thing);
        counts[5]++;
        return new Val(sort, 0, thing);
    }

    private void perform(int instruction, int x) {
        switch (instruction) {
            case 0: case 1: case 2: accumulator = new Val(instruction, 0, null); break;
            case 3: accumulator = Val.integer(x); break;
            case 4: accumulator = s(x); break;
            case 5: accumulator = globals[x]; break;
            case 6: accumulator = accumulator.thing.parts[x]; break;
            case 7: accumulator = s(0).thing.parts[accumulator.number]; go(1); break;
            case 8: accumulator = Val.integer(accumulator.thing.parts.length); break;
            case 9: stack.set(stack.size() - 1 - x, accumulator); break;
            case 10: globals[x] = accumulator; break;
            case 11: s(0).thing.parts[x] = accumulator; go(1); break;
            case 12: s(1).thing.parts[s(0).number] = accumulator; go(2); break;
            case 13: stack.add(accumulator); break;
            case 14: go(x); break;
            case 15: next = x; break;
            case 16: next = accumulator.sort == 2 ? x : next; break;
            case 17: next = accumulator.sort == 2 ? next : x; break;
            case 18: case 19: case 20: case 21: case 22: case 23: case 24: pair(instruction); break;
            case 25: accumulator = Val.truth(accumulator.sort != 2); break;
            case 26: accumulator = Val.integer(accumulator.sort); break;
            case 27: accumulator = made(4, 16); break;
            case 28: array(x); break;
            case 29: accumulator = new Val(6, x, null); break;
            case 30: notes.add(new Note(false, next, 0)); next = accumulator.number / 8; break;
            case 31: go(x); next = notes.remove(notes.size() - 1).place; break;
            case 32: notes.add(new Note(true, x, stack.size())); break;
            default: notes.remove(notes.size() - 1); break;
        }
    }

    private void pair(int instruction) {
        Val left = s(0);
        int a = left.number;
        int b = accumulator.number;
        go(1);
        switch (instruction) {
            case 18: accumulator = Val.truth(left.same(accumulator)); break;
            case 19: accumulator = Val.truth(a < b); break;
            case 20: accumulator = Val.integer((int) ((long) a + b)); break;
            case 21: accumulator = Val.integer((int) ((long) a - b)); break;
            case 22: accumulator = Val.integer((int) ((long) a * b)); break;
            case 23: accumulator = Val.integer((int) ((long) a / b)); break;
            default: accumulator = Val.integer((int) ((long) a % b)); break;
        }
    }

    private void array(int x) {
        Val array = made(5, x);
        for (int k = 0; k < x; k++) {
            array.thing.parts[k] = s(x - 1 - k);
        }
        go(x);
        accumulator = array;
    }
}
