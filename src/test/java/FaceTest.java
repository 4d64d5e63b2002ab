import java.lang.reflect.Constructor;
import java.lang.reflect.Field;
import java.lang.reflect.Method;
import java.lang.reflect.Modifier;
import java.util.Arrays;
import java.util.Set;
import java.util.TreeSet;
import java.util.stream.Collectors;

/** The class shows the document's face and nothing more, as LANGUAGE.md rules 1 and 5 ask. */
public final class FaceTest {
    private static final String[] FACE = {
        "int variable() IllegalStateException",
        "int term(int,int,int) IllegalArgumentException,IllegalStateException",
        "int unify(int,int) IllegalArgumentException,IllegalStateException",
        "int why()",
        "int undo(int) IllegalArgumentException",
        "int count(int) IllegalArgumentException",
        "boolean same(int,int) IllegalArgumentException",
        "int leader(int) IllegalArgumentException",
        "long size(int) IllegalArgumentException",
        "int depth(int) IllegalArgumentException",
        "int variables(int) IllegalArgumentException",
        "int at(int,long) IllegalArgumentException,IndexOutOfBoundsException",
        "boolean matches(int,int) IllegalArgumentException",
        "long common(int,int) IllegalArgumentException",
    };

    private static int wrong = 0;

    public static void main(String[] args) {
        due("the class", Modifier.toString(TermWeaver.class.getModifiers()), "public final");
        due("the methods", methods(), new TreeSet<>(Arrays.asList(FACE)));
        due("the constructors", constructors(), Set.of("public()"));
        checkFields();
        checkNamesOfPrivateMethods();
        System.out.println(wrong == 0 ? "the face is the document's" : wrong + " faults in the face");
        if (wrong != 0) {
            System.exit(1);
        }
    }

    private static void due(String what, Object got, Object want) {
        if (!want.equals(got)) {
            wrong++;
            System.out.println(what + ": " + got + ", due is " + want);
        }
    }

    private static String names(Class<?>[] types) {
        return Arrays.stream(types).map(Class::getSimpleName).collect(Collectors.joining(","));
    }

    private static Set<String> methods() {
        Set<String> found = new TreeSet<>();
        for (Method m : TermWeaver.class.getDeclaredMethods()) {
            if (!Modifier.isPrivate(m.getModifiers()) && !m.isSynthetic()) {
                String head = m.getReturnType().getSimpleName() + " " + m.getName() + "(" + names(m.getParameterTypes()) + ")";
                found.add((head + " " + names(m.getExceptionTypes())).trim());
            }
        }
        return found;
    }

    private static Set<String> constructors() {
        Set<String> found = new TreeSet<>();
        for (Constructor<?> c : TermWeaver.class.getDeclaredConstructors()) {
            found.add(Modifier.toString(c.getModifiers()) + "(" + names(c.getParameterTypes()) + ")");
        }
        return found;
    }

    private static void checkFields() {
        for (Field f : TermWeaver.class.getDeclaredFields()) {
            due("private field " + f.getName(), Modifier.isPrivate(f.getModifiers()), true);
            if (Modifier.isStatic(f.getModifiers())) {
                due("final static field " + f.getName(), Modifier.isFinal(f.getModifiers()), true);
            }
        }
    }

    private static void checkNamesOfPrivateMethods() {
        Set<String> shown = new TreeSet<>();
        for (Method m : TermWeaver.class.getMethods()) {
            shown.add(m.getName());
        }
        for (Method m : TermWeaver.class.getDeclaredMethods()) {
            if (Modifier.isPrivate(m.getModifiers())) {
                due("own name of " + m.getName(), shown.contains(m.getName()), false);
            }
        }
    }
}
