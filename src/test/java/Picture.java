import java.util.LinkedHashMap;
import java.util.Map;
import java.util.function.Supplier;

/**
 * All that can be seen of a machine, line by line, so that two moments can be compared. Each line is
 * read from a machine of its own, so that none of them is used for more calls than the document allows.
 */
final class Picture {
    static final String ACCUMULATOR = "the accumulator";
    static final String STOPPED_BY = "what stopped it";
    static final String STATE = "state()";
    /** Behind the name of a value: whether it is the same as the accumulator. */
    static final String SAME = " is the accumulator";

    private static final int DEEPEST = 2;

    private final Map<String, String> lines = new LinkedHashMap<>();
    private final Supplier<ValueMachine> maker;

    Picture(Supplier<ValueMachine> maker) {
        this.maker = maker;
        ValueMachine machine = maker.get();
        lines.put(STATE, "" + machine.state());
        for (int what = 0; what <= 8; what++) {
            lines.put(count(what), "" + machine.count(what));
        }
        addValue(ACCUMULATOR, 0, 0);
        for (int k = 0; k < machine.count(2); k++) {
            addValue("S" + k, 1, k);
        }
        for (int k = 0; k < 8; k++) {
            addValue("global " + k, 2, k);
        }
        addValue(STOPPED_BY, 3, 0);
    }

    static String count(int what) {
        return "count(" + what + ")";
    }

    String line(String name) {
        return lines.get(name);
    }

    private void addValue(String name, int where, int k) {
        lines.put(name, told(where, k));
        ValueMachine machine = maker.get();
        boolean there = machine.look(where, k) != ValueMachine.NONE;
        lines.put(name + SAME, "" + (there && machine.isSame()));
    }

    private String told(int where, int k, int... path) {
        ValueMachine machine = maker.get();
        int sort = machine.look(where, k);
        for (int part : path) {
            sort = machine.into(part);
        }
        if (sort == ValueMachine.NONE) {
            return "none";
        }
        int value = machine.value();
        StringBuilder text = new StringBuilder().append(sort).append(':').append(value);
        if ((sort == 4 || sort == 5) && path.length < DEEPEST) {
            addParts(text, sort == 4 ? 16 : value, where, k, path);
        }
        return text.toString();
    }

    private void addParts(StringBuilder text, int many, int where, int k, int[] path) {
        int[] longer = java.util.Arrays.copyOf(path, path.length + 1);
        text.append('[');
        for (int part = 0; part < many; part++) {
            longer[path.length] = part;
            text.append(part == 0 ? "" : " ").append(told(where, k, longer));
        }
        text.append(']');
    }

    /** Every line must be the same now and then, but for those whose name ends with one of these. */
    static void dueSameBut(String what, Picture then, Picture now, String... endings) {
        Check.due(what + ": as many values as before", now.lines.size(), then.lines.size());
        for (String name : then.lines.keySet()) {
            if (!endsWithOne(name, endings)) {
                String due = then.line(name);
                Check.holds(what + ": " + name + " is " + now.line(name) + " as before, " + due, due.equals(now.line(name)));
            }
        }
    }

    private static boolean endsWithOne(String name, String[] endings) {
        for (String ending : endings) {
            if (name.endsWith(ending)) {
                return true;
            }
        }
        return false;
    }
}
