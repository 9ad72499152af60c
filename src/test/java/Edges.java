import java.util.Arrays;

/**
 * What the tests of the edges share: programs put together from parts, and the two sides of an edge. Of
 * a program that goes straight on, the last instruction must be done, or must go wrong and leave all else.
 */
abstract class Edges implements Instructions {
    static final int MIN = Integer.MIN_VALUE;
    static final int MAX = Integer.MAX_VALUE;
    static final int NONE = ValueMachine.NONE;

    static int[] of(int... program) {
        return program;
    }

    static int[] join(int[]... parts) {
        int[] all = new int[0];
        for (int[] part : parts) {
            int end = all.length;
            all = Arrays.copyOf(all, end + part.length);
            System.arraycopy(part, 0, all, end, part.length);
        }
        return all;
    }

    static int[] times(int many, int... part) {
        int[] all = new int[many * part.length];
        for (int k = 0; k < all.length; k++) {
            all[k] = part[k % part.length];
        }
        return all;
    }

    /** Leaves a value of the sort in the accumulator and the stack as it was; an array has one element. */
    static int[] valueOf(int sort) {
        switch (sort) {
            case 3: return of(INTEGER, 2);
            case 4: return of(OBJECT, 0);
            case 5: return of(PUSH, 0, ARRAY, 1);
            case 6: return of(FUNCTION, 0);
            default: return of(sort, 0);
        }
    }

    /** So many calls that are noted, each of a function at the instruction behind it; begins at the place. */
    static int[] calls(int many, int place) {
        int[] all = times(many, FUNCTION, 0, CALL, 0);
        for (int k = 0; k < many; k++) {
            all[4 * k + 1] = 8 * (place + 2 * k + 2);
        }
        return all;
    }

    static int steps(int[] program) {
        return program.length / 2;
    }

    static ValueMachine after(int steps, int... program) {
        ValueMachine machine = Programs.loaded(program);
        machine.run(steps);
        return machine;
    }

    static String text(String what, int[] program) {
        int end = program.length;
        return what + " (.. " + program[end - 2] + " " + program[end - 1] + ")";
    }

    /** The inner side: all instructions are done, and nothing goes wrong. */
    static ValueMachine taken(String what, int... program) {
        ValueMachine machine = Programs.loaded(program);
        String name = text(what, program);
        Check.due(name + ": all are done", machine.run(steps(program)), steps(program));
        Check.due(name + ": times something went wrong", machine.count(8), 0);
        Check.holds(name + ": not stopped", machine.state() != 2);
        return machine;
    }

    /** The outer side: the last instruction, and none before, goes wrong so, and all else is as it was. */
    static void refused(String what, int fault, int... program) {
        int last = steps(program) - 1;
        Picture before = new Picture(() -> after(last, program));
        Picture then = new Picture(() -> after(last + 1, program));
        String name = text(what, program);
        Check.holds(name + ": nothing is wrong before it", before.line(Picture.count(8)).equals("0"));
        dueLine(name, before, Picture.count(1), last);
        dueLine(name, then, Picture.STATE, 2);
        dueLine(name, then, Picture.count(1), last);
        dueLine(name, then, Picture.count(7), last + 1);
        dueLine(name, then, Picture.count(8), 1);
        Check.holds(name + ": stopped by " + then.line(Picture.STOPPED_BY) + ", due is " + fault,
            then.line(Picture.STOPPED_BY).equals("3:" + fault));
        dueSweeps(name, fault, before, then);
        Picture.dueSameBut(name, before, then, Picture.STATE, Picture.count(6), Picture.count(7), Picture.count(8),
            Picture.STOPPED_BY, Picture.STOPPED_BY + Picture.SAME);
    }

    /** It is swept before there is no room, and only then. */
    private static void dueSweeps(String name, int fault, Picture before, Picture then) {
        int sweeps = Integer.parseInt(before.line(Picture.count(6)));
        dueLine(name, then, Picture.count(6), fault == 6 ? sweeps + 1 : sweeps);
    }

    /**
     * The last instruction goes wrong with a trap to instruction 0 noted just before it: what went wrong
     * is the accumulator (told as in a Picture), it goes on at 0, and all else is as it was.
     */
    static void trapped(String what, String wrong, int... program) {
        int last = steps(program) - 1;
        int[] head = Arrays.copyOf(program, 2 * last);
        int[] all = join(head, of(TRAP, 0), Arrays.copyOfRange(program, 2 * last, program.length));
        Picture before = new Picture(() -> after(last, all));
        Picture then = new Picture(() -> after(last + 2, all));
        String name = text(what + " with a trap", all);
        dueLine(name, then, Picture.STATE, 0);
        dueLine(name, then, Picture.count(1), 0);
        dueLine(name, then, Picture.count(7), last + 2);
        dueLine(name, then, Picture.count(8), 1);
        Check.holds(name + ": the accumulator is " + then.line(Picture.ACCUMULATOR) + ", due is " + wrong,
            then.line(Picture.ACCUMULATOR).equals(wrong));
        Picture.dueSameBut(name, before, then, Picture.count(1), Picture.count(6), Picture.count(7), Picture.count(8),
            Picture.ACCUMULATOR, Picture.SAME);
    }

    private static void dueLine(String name, Picture picture, String line, int due) {
        Check.due(name + ": " + line, Integer.parseInt(picture.line(line)), due);
    }

    static void dueCounts(String what, ValueMachine machine, int things, int made, int sweeps) {
        Check.due(what + ": things that there are", machine.count(4), things);
        Check.due(what + ": things made", machine.count(5), made);
        Check.due(what + ": sweeps", machine.count(6), sweeps);
    }
}
