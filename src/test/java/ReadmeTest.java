import java.io.IOException;
import java.lang.reflect.Method;
import java.nio.file.Files;
import java.nio.file.Path;
import java.util.HashSet;
import java.util.Set;
import java.util.regex.Matcher;
import java.util.regex.Pattern;

/** README.md is right: each call of its examples answers what its comment says, and each number has its name. */
public final class ReadmeTest {
    private static final Pattern BLOCK = Pattern.compile("(?s)```java\n(.*?)```");
    private static final Pattern LIST = Pattern.compile("(?s)```text\n(.*?)```");
    private static final Pattern CALL = Pattern.compile("machine\\.(\\w+)\\(([^)]*)\\); +// (.*)");
    private static final Pattern ANSWER = Pattern.compile("(-?\\d+)(: .*)?");
    private static final Pattern NAMED = Pattern.compile("(\\d+) ([A-Z]+(?: [A-Z]+)*)");

    public static void main(String[] args) throws ReflectiveOperationException, IOException {
        String readme = Files.readString(Path.of("README.md"));
        int examples = 0;
        for (Matcher block = BLOCK.matcher(readme); block.find(); examples++) {
            runExample(block.group(1).split("\n"));
        }
        Check.holds("README.md has examples", examples > 0);
        listOfInstructions(readme);
        Check.end();
    }

    private static void runExample(String[] lines) throws ReflectiveOperationException {
        Check.holds("an example makes a machine", lines[0].equals("ValueMachine machine = new ValueMachine();"));
        ValueMachine machine = new ValueMachine();
        for (int k = 1; k < lines.length; k++) {
            Matcher call = CALL.matcher(lines[k]);
            boolean isCall = call.matches();
            Check.holds("a call with a comment: " + lines[k], isCall);
            if (isCall) {
                runCall(machine, call, lines[k]);
            }
        }
    }

    private static void runCall(ValueMachine machine, Matcher call, String line) throws ReflectiveOperationException {
        int[] numbers = numbersOf(call.group(2));
        if (call.group(1).equals("code")) {
            machine.code(numbers[0], numbers[1]);
            dueName(line, numbers, call.group(3));
            return;
        }
        Matcher answer = ANSWER.matcher(call.group(3));
        boolean tells = answer.matches();
        Check.holds("the comment tells the answer: " + line, tells);
        if (tells) {
            Check.due(line, answerOf(machine, call.group(1), numbers), Integer.parseInt(answer.group(1)));
        }
    }

    private static int[] numbersOf(String arguments) {
        if (arguments.isEmpty()) {
            return new int[0];
        }
        String[] parts = arguments.split(", ");
        int[] numbers = new int[parts.length];
        for (int k = 0; k < parts.length; k++) {
            numbers[k] = Integer.parseInt(parts[k]);
        }
        return numbers;
    }

    private static int answerOf(ValueMachine machine, String name, int[] numbers) throws ReflectiveOperationException {
        Class<?>[] types = new Class<?>[numbers.length];
        Object[] arguments = new Object[numbers.length];
        for (int k = 0; k < numbers.length; k++) {
            types[k] = int.class;
            arguments[k] = numbers[k];
        }
        Method method = ValueMachine.class.getMethod(name, types);
        return (Integer) method.invoke(machine, arguments);
    }

    /** The comment behind a code call is the instruction's name, with its x if that counts. */
    private static void dueName(String line, int[] numbers, String comment) throws ReflectiveOperationException {
        String name = comment.replaceAll(" -?\\d+$", "");
        Check.due("the name in: " + line, numbers[0], numberOf(name));
        String x = comment.substring(name.length()).trim();
        Check.due("the x in: " + line, numbers[1], x.isEmpty() ? 0 : Integer.parseInt(x));
    }

    private static int numberOf(String name) throws ReflectiveOperationException {
        return Instructions.class.getField(name.replace(' ', '_')).getInt(null);
    }

    private static void listOfInstructions(String readme) throws ReflectiveOperationException {
        Matcher list = LIST.matcher(readme);
        boolean there = list.find();
        Check.holds("README.md lists the instructions", there);
        Set<Integer> listed = new HashSet<>();
        for (Matcher named = NAMED.matcher(there ? list.group(1) : ""); named.find();) {
            int number = Integer.parseInt(named.group(1));
            Check.due("the number of " + named.group(2), number, numberOf(named.group(2)));
            listed.add(number);
        }
        Check.due("instructions that are listed", listed.size(), 35);
    }
}
