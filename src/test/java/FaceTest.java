import java.lang.reflect.Constructor;
import java.lang.reflect.Field;
import java.lang.reflect.Method;
import java.lang.reflect.Modifier;
import java.util.Set;
import java.util.TreeSet;

/** The public face: just what the document lists, and nothing else that can be seen. */
public final class FaceTest {
    private static final Set<String> METHODS = Set.of(
        "public int ValueMachine.code(int,int) throws java.lang.IllegalArgumentException",
        "public void ValueMachine.clear()",
        "public void ValueMachine.reset()",
        "public int ValueMachine.run(int) throws java.lang.IllegalArgumentException",
        "public int ValueMachine.state()",
        "public int ValueMachine.look(int,int)",
        "public int ValueMachine.into(int)",
        "public int ValueMachine.value()",
        "public boolean ValueMachine.isSame()",
        "public int ValueMachine.count(int)");

    public static void main(String[] args) {
        Check.holds("the class is public and final", isPublicFinal());
        Check.due("NONE", ValueMachine.NONE, -1);
        methods();
        constructors();
        fields();
        privateNames();
        Check.end();
    }

    private static boolean isPublicFinal() {
        int modifiers = ValueMachine.class.getModifiers();
        return Modifier.isPublic(modifiers) && Modifier.isFinal(modifiers);
    }

    private static void methods() {
        Set<String> seen = new TreeSet<>();
        for (Method method : ValueMachine.class.getDeclaredMethods()) {
            if (!Modifier.isPrivate(method.getModifiers()) && !method.isSynthetic()) {
                seen.add(method.toString());
            }
        }
        Check.holds("the methods are those of the document: " + seen, seen.equals(METHODS));
    }

    private static void constructors() {
        Constructor<?>[] all = ValueMachine.class.getDeclaredConstructors();
        Check.due("constructors", all.length, 1);
        Check.holds("the constructor", all[0].toString().equals("public ValueMachine()"));
    }

    private static void fields() {
        for (Field field : ValueMachine.class.getDeclaredFields()) {
            boolean known = field.toString().equals("public static final int ValueMachine.NONE");
            Check.holds("hidden or known: " + field, known || Modifier.isPrivate(field.getModifiers()));
        }
    }

    private static void privateNames() {
        Set<String> open = new TreeSet<>();
        for (Method method : ValueMachine.class.getMethods()) {
            open.add(method.getName());
        }
        for (Method method : ValueMachine.class.getDeclaredMethods()) {
            if (Modifier.isPrivate(method.getModifiers())) {
                Check.holds("a name of its own: " + method, !open.contains(method.getName()));
            }
        }
    }
}
