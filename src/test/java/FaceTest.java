import java.lang.reflect.Constructor;
import java.lang.reflect.Executable;
import java.lang.reflect.Field;
import java.lang.reflect.Member;
import java.lang.reflect.Method;
import java.lang.reflect.Modifier;
import java.util.ArrayList;
import java.util.Arrays;
import java.util.List;
import java.util.TreeSet;

/** The public face, and rule 1 of LANGUAGE.md: nothing beside it can be seen from outside. */
public final class FaceTest {
    private static final String ARGUMENT = "IllegalArgumentException";
    private static final String BOTH = "IllegalArgumentException, IllegalStateException";
    private static final String ELEMENT = "NoSuchElementException";

    private static final String[] FACE = {
        "SealBox() throws ",
        "int feed(int, long) throws " + BOTH,
        "int wipe() throws ",
        "int keep(int, boolean) throws " + BOTH,
        "void digest() throws ",
        "void mac(int) throws " + ARGUMENT,
        "void stretch(int, int) throws " + ARGUMENT,
        "void label(int, int, int) throws " + BOTH,
        "void block(int, int) throws " + BOTH,
        "void tally(int) throws " + BOTH,
        "void arm(int, int) throws " + BOTH,
        "int turn(int) throws " + BOTH,
        "int seal(int, long, int) throws " + BOTH,
        "int open(int, long, int) throws " + BOTH,
        "int shield(int, int, boolean) throws " + BOTH,
        "int out(int) throws " + ELEMENT,
        "long outs(int) throws " + ELEMENT,
        "int look(int) throws " + ELEMENT,
    };

    public static void main(String[] args) {
        int modifiers = SealBox.class.getModifiers();
        Check.same("the class is public and final", true,
                Modifier.isPublic(modifiers) && Modifier.isFinal(modifiers));
        Check.same("the face", new TreeSet<>(Arrays.asList(FACE)), visibleFace());
        for (Field field : SealBox.class.getDeclaredFields()) {
            Check.same("the field " + field.getName() + " is private", true, isPrivate(field));
        }
        namesOfPrivateMethods();
        Check.end();
    }

    private static TreeSet<String> visibleFace() {
        TreeSet<String> face = new TreeSet<>();
        for (Constructor<?> constructor : SealBox.class.getDeclaredConstructors()) {
            if (!isPrivate(constructor)) {
                face.add("SealBox" + parameters(constructor));
            }
        }
        for (Method method : SealBox.class.getDeclaredMethods()) {
            if (!isPrivate(method)) {
                face.add(method.getReturnType() + " " + method.getName() + parameters(method));
            }
        }
        return face;
    }

    private static void namesOfPrivateMethods() {
        List<Class<?>> classes = new ArrayList<>(Arrays.asList(SealBox.class.getDeclaredClasses()));
        classes.add(SealBox.class);
        for (Class<?> owner : classes) {
            for (Method method : owner.getDeclaredMethods()) {
                boolean ofTheFace = owner == SealBox.class && Modifier.isPublic(method.getModifiers());
                Check.same(owner.getSimpleName() + "." + method.getName() + " bears a public method's name",
                        false, !ofTheFace && bearsFaceName(method.getName()));
            }
        }
    }

    private static boolean bearsFaceName(String name) {
        for (String member : FACE) {
            if (member.contains(" " + name + "(")) {
                return true;
            }
        }
        return false;
    }

    private static boolean isPrivate(Member member) {
        return Modifier.isPrivate(member.getModifiers());
    }

    private static String parameters(Executable executable) {
        return "(" + names(executable.getParameterTypes()) + ") throws " + names(executable.getExceptionTypes());
    }

    private static String names(Class<?>[] types) {
        StringBuilder names = new StringBuilder();
        for (Class<?> type : types) {
            names.append(names.length() == 0 ? "" : ", ").append(type.getSimpleName());
        }
        return names.toString();
    }
}
