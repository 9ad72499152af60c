import java.io.IOException;
import java.lang.reflect.Field;
import java.lang.reflect.Method;
import java.lang.reflect.Modifier;
import java.nio.file.Files;
import java.nio.file.Path;
import java.util.ArrayList;
import java.util.List;
import java.util.Set;
import java.util.regex.Matcher;
import java.util.regex.Pattern;

/** The rules of ../shared/LANGUAGE.md, as far as they can be read off the program's text and its classes. */
public final class LanguageTest {
    private static final Path PROGRAM = Path.of("src/main/java/ValueMachine.java");
    private static final int LONGEST_METHOD = 60;
    private static final int MOST_CLASSES = 12;
    private static final int MOST_FIELDS = 20;
    private static final int MOST_PARAMETERS = 7;

    public static void main(String[] args) throws IOException {
        String program = withoutComments(Files.readString(PROGRAM));
        words(program);
        throwsWrittenTexts(program);
        methodsAreShort(program);
        for (Class<?> one : classes()) {
            nestedIsStaticAndHidden(one);
            fieldsAreFew(one);
            staticFieldsAreFinal(one);
            methodsTakeFew(one);
        }
        Check.holds("rule 11: few classes", classes().size() <= MOST_CLASSES);
        Check.end();
    }

    private static String withoutComments(String text) {
        return text.replaceAll("(?s)/\\*.*?\\*/", "").replaceAll("//[^\n]*", "");
    }

    /** Rules 2 to 6, 10 and 13: what may not stand in the program at all, as it has no need of it. */
    private static void words(String program) {
        String[] words = {
            "package", "import", "double", "float", "try", "catch", "finally", "synchronized", "assert", "native",
            "volatile", "transient", "var", "Object", "System", "Thread", "Random", "getClass", "equals", "hashCode",
            "toString", "Exact", "protected"};
        for (String word : words) {
            Check.holds("the program is without " + word, !Pattern.compile("\\b" + word + "\\b").matcher(program).find());
        }
        Check.holds("rule 2: no lambda", !program.contains("->"));
        Check.holds("rule 2: no method reference", !program.contains("::"));
        Check.holds("rule 5: no static initialiser", !Pattern.compile("static\\s*\\{").matcher(program).find());
        Check.holds("rule 6: the constructor throws nothing", program.contains("public ValueMachine() {\n    }"));
    }

    /** Rule 6: a throw makes one of the listed exceptions, with a written text. */
    private static void throwsWrittenTexts(String program) {
        Matcher any = Pattern.compile("\\bthrow\\b").matcher(program);
        Matcher written = Pattern.compile("\\bthrow new IllegalArgumentException\\(\"[^\"]*\"\\);").matcher(program);
        Check.due("rule 6: throws with a written text", written.results().count(), any.results().count());
    }

    /** Rule 11: a method or class member ends where its indentation comes back. */
    private static void methodsAreShort(String program) {
        String[] lines = program.split("\n");
        for (int first = 0; first < lines.length; first++) {
            if (lines[first].endsWith(") {") && lines[first].matches("( {4}| {8})(public|private|static|[a-z]+) .*")) {
                String indent = lines[first].replaceAll("\\S.*", "");
                int last = first;
                while (last < lines.length && !lines[last].equals(indent + "}")) {
                    last++;
                }
                Check.holds("rule 11: short: " + lines[first].trim(), last - first < LONGEST_METHOD);
            }
        }
    }

    private static List<Class<?>> classes() {
        List<Class<?>> all = new ArrayList<>();
        all.add(ValueMachine.class);
        all.addAll(List.of(ValueMachine.class.getDeclaredClasses()));
        return all;
    }

    private static void nestedIsStaticAndHidden(Class<?> one) {
        if (one != ValueMachine.class) {
            int modifiers = one.getModifiers();
            boolean hidden = !Modifier.isPublic(modifiers) && !Modifier.isProtected(modifiers);
            Check.holds("rule 1: static and hidden: " + one, Modifier.isStatic(modifiers) && hidden);
        }
    }

    private static void fieldsAreFew(Class<?> one) {
        int many = 0;
        for (Field field : one.getDeclaredFields()) {
            many += Modifier.isStatic(field.getModifiers()) ? 0 : 1;
        }
        Check.holds("rule 11: few fields: " + one, many <= MOST_FIELDS);
    }

    private static void staticFieldsAreFinal(Class<?> one) {
        Set<Class<?>> plain = Set.of(int.class, long.class, boolean.class, char.class, String.class);
        for (Field field : one.getDeclaredFields()) {
            int modifiers = field.getModifiers();
            if (Modifier.isStatic(modifiers)) {
                Check.holds("rule 5: " + field, Modifier.isFinal(modifiers) && plain.contains(field.getType()));
            }
        }
    }

    private static void methodsTakeFew(Class<?> one) {
        for (Method method : one.getDeclaredMethods()) {
            Check.holds("rule 11: few parameters: " + method, method.getParameterCount() <= MOST_PARAMETERS);
        }
    }
}
