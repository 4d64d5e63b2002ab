import java.lang.reflect.Constructor;
import java.lang.reflect.Field;
import java.lang.reflect.Method;
import java.lang.reflect.Modifier;
import java.util.Arrays;
import java.util.Set;
import java.util.TreeSet;
import java.util.stream.Collectors;

/** The class shows the document's face and nothing more, as LANGUAGE.md rules 1, 2, 5 and 11 ask. */
public final class FaceTest {
    private static final String[] FACE = {
        "public int variable() IllegalStateException",
        "public int term(int,int,int) IllegalArgumentException,IllegalStateException",
        "public int unify(int,int) IllegalArgumentException,IllegalStateException",
        "public int why()",
        "public int undo(int) IllegalArgumentException",
        "public int count(int) IllegalArgumentException",
        "public boolean same(int,int) IllegalArgumentException",
        "public int leader(int) IllegalArgumentException",
        "public long size(int) IllegalArgumentException",
        "public int depth(int) IllegalArgumentException",
        "public int variables(int) IllegalArgumentException",
        "public int at(int,long) IllegalArgumentException,IndexOutOfBoundsException",
        "public boolean matches(int,int) IllegalArgumentException",
        "public long common(int,int) IllegalArgumentException",
    };

    private static final int MOST_CLASSES = 12;
    private static final int MOST_FIELDS = 20;
    private static final int MOST_PARAMETERS = 7;

    private static int wrong = 0;

    public static void main(String[] args) {
        checkClass();
        due("the methods", methods(), new TreeSet<>(Arrays.asList(FACE)));
        due("the constructors", constructors(), Set.of("public ()"));
        checkFields();
        checkPrivateMethods(TermWeaver.class);
        checkClassesInside();
        System.out.println(wrong == 0 ? "the face is the document's" : wrong + " faults in the face");
        if (wrong != 0) {
            System.exit(1);
        }
    }

    private static void due(String what, Object got, Object want) {
        if (!want.equals(got)) {
            wrong++;
            System.out.println(what + ": " + got + ", due is " + want);
        }
    }

    private static void checkClass() {
        due("the class", Modifier.toString(TermWeaver.class.getModifiers()), "public final");
        due("the name of the class", TermWeaver.class.getName(), "TermWeaver");
        due("what the class extends", TermWeaver.class.getSuperclass(), Object.class);
        due("what the class implements", names(TermWeaver.class.getInterfaces()), "");
        due("the types that the class takes", TermWeaver.class.getTypeParameters().length, 0);
    }

    private static String names(Class<?>[] types) {
        return Arrays.stream(types).map(Class::getSimpleName).collect(Collectors.joining(","));
    }

    private static Set<String> methods() {
        Set<String> found = new TreeSet<>();
        for (Method m : TermWeaver.class.getDeclaredMethods()) {
            if (!Modifier.isPrivate(m.getModifiers()) && !m.isSynthetic()) {
                String head = Modifier.toString(m.getModifiers()) + " " + m.getReturnType().getSimpleName();
                String call = m.getName() + "(" + names(m.getParameterTypes()) + ")";
                found.add((head + " " + call + " " + names(m.getExceptionTypes())).trim());
            }
        }
        return found;
    }

    private static Set<String> constructors() {
        Set<String> found = new TreeSet<>();
        for (Constructor<?> c : TermWeaver.class.getDeclaredConstructors()) {
            String head = Modifier.toString(c.getModifiers()) + " (" + names(c.getParameterTypes()) + ")";
            found.add((head + " " + names(c.getExceptionTypes())).trim());
        }
        return found;
    }

    private static void checkFields() {
        for (Field f : TermWeaver.class.getDeclaredFields()) {
            due("private field " + f.getName(), Modifier.isPrivate(f.getModifiers()), true);
        }
        checkStaticFields(TermWeaver.class);
    }

    private static void checkStaticFields(Class<?> owner) {
        int fields = 0;
        for (Field f : owner.getDeclaredFields()) {
            if (Modifier.isStatic(f.getModifiers())) {
                due("final static field " + f.getName(), Modifier.isFinal(f.getModifiers()), true);
            } else {
                fields++;
            }
        }
        due("no more fields than are allowed in " + owner.getName(), fields <= MOST_FIELDS, true);
    }

    private static void checkPrivateMethods(Class<?> owner) {
        Set<String> shown = new TreeSet<>();
        for (Method m : TermWeaver.class.getMethods()) {
            shown.add(m.getName());
        }
        for (Method m : owner.getDeclaredMethods()) {
            if (Modifier.isPrivate(m.getModifiers())) {
                due("own name of " + m.getName(), shown.contains(m.getName()), false);
            }
            due("no more parameters than are allowed of " + m.getName(), m.getParameterCount() <= MOST_PARAMETERS, true);
        }
    }

    private static void checkClassesInside() {
        Class<?>[] all = TermWeaver.class.getDeclaredClasses();
        due("no more classes than are allowed", all.length + 1 <= MOST_CLASSES, true);
        for (Class<?> inside : all) {
            int modifiers = inside.getModifiers();
            due("static class " + inside.getName(), Modifier.isStatic(modifiers), true);
            due("public class " + inside.getName(), Modifier.isPublic(modifiers), false);
            due("protected class " + inside.getName(), Modifier.isProtected(modifiers), false);
            checkStaticFields(inside);
            checkPrivateMethods(inside);
        }
    }
}
