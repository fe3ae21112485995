import java.lang.reflect.Constructor;
import java.lang.reflect.Field;
import java.lang.reflect.Method;
import java.lang.reflect.Modifier;
import java.util.Arrays;
import java.util.Set;
import java.util.TreeSet;

/**
 * The class has the document's face and nothing else that is not private, and keeps to what can be
 * seen from outside of the rules of LANGUAGE.md.
 */
public final class FaceTest extends Checks {

    private static final String[] FACE = {
        "public static final int RunHeap.NONE",
        "public RunHeap(int)",
        "public int RunHeap.give(int)",
        "public int RunHeap.giveAligned(int,int)",
        "public boolean RunHeap.free(int)",
        "public boolean RunHeap.grow(int,int)",
        "public boolean RunHeap.trim(int,int)",
        "public boolean RunHeap.pin(int,boolean)",
        "public int RunHeap.get(int,int) throws java.util.NoSuchElementException,java.lang.IndexOutOfBoundsException",
        "public int RunHeap.set(int,int,int)"
            + " throws java.util.NoSuchElementException,java.lang.IndexOutOfBoundsException",
        "public int RunHeap.sizeOf(int)",
        "public int RunHeap.largest()",
        "public int RunHeap.count(int)",
        "public int RunHeap.freeAt(int)",
        "public int RunHeap.branch(int,int)"
            + " throws java.util.NoSuchElementException,java.lang.IllegalArgumentException",
        "public int RunHeap.advise(int)",
        "public int RunHeap.window()",
        "public int RunHeap.move(int,int)"
            + " throws java.lang.IndexOutOfBoundsException,java.lang.IllegalArgumentException",
        "public int RunHeap.apply()",
        "public int RunHeap.moved(int)"};

    private static final int MOST_CLASSES = 12;
    private static final int MOST_FIELDS = 20;
    private static final int MOST_PARAMETERS = 7;

    public static void main(String[] args) {
        due("public and final", isPublicFinal(RunHeap.class.getModifiers()), true);
        due("the face", face(), new TreeSet<>(Arrays.asList(FACE)));
        Class<?>[] inside = RunHeap.class.getDeclaredClasses();
        due("few classes", inside.length < MOST_CLASSES, true);
        dueNoNameOfTheFace(RunHeap.class);
        dueRules(RunHeap.class);
        for (Class<?> c : inside) {
            due(c + " is static", Modifier.isStatic(c.getModifiers()), true);
            due(c + " is seen from outside", isOpen(c.getModifiers()), false);
            dueNoNameOfTheFace(c);
            dueRules(c);
        }
        end("the face is the document's");
    }

    private static boolean isPublicFinal(int modifiers) {
        return Modifier.isPublic(modifiers) && Modifier.isFinal(modifiers);
    }

    private static boolean isOpen(int modifiers) {
        return Modifier.isPublic(modifiers) || Modifier.isProtected(modifiers);
    }

    private static Set<String> face() {
        Set<String> seen = new TreeSet<>();
        for (Field f : RunHeap.class.getDeclaredFields()) {
            note(seen, f.getModifiers(), f.toGenericString());
        }
        for (Constructor<?> c : RunHeap.class.getDeclaredConstructors()) {
            note(seen, c.getModifiers(), c.toGenericString());
        }
        for (Method m : RunHeap.class.getDeclaredMethods()) {
            note(seen, m.getModifiers(), m.toGenericString());
        }
        return seen;
    }

    private static void note(Set<String> seen, int modifiers, String text) {
        if (!Modifier.isPrivate(modifiers)) {
            seen.add(text);
        }
    }

    private static Set<String> namesOfTheFace() {
        Set<String> names = new TreeSet<>();
        for (Method m : RunHeap.class.getDeclaredMethods()) {
            if (Modifier.isPublic(m.getModifiers())) {
                names.add(m.getName());
            }
        }
        return names;
    }

    private static void dueNoNameOfTheFace(Class<?> c) {
        for (Method m : c.getDeclaredMethods()) {
            if (!Modifier.isPublic(m.getModifiers())) {
                due(m + " bears a name of the face", namesOfTheFace().contains(m.getName()), false);
            }
        }
    }

    /** Rules 5 and 11 of LANGUAGE.md. */
    private static void dueRules(Class<?> c) {
        int fields = 0;
        for (Field f : c.getDeclaredFields()) {
            if (Modifier.isStatic(f.getModifiers())) {
                due(f + " is final", Modifier.isFinal(f.getModifiers()), true);
            } else {
                fields++;
            }
        }
        due(c + " has few fields", fields <= MOST_FIELDS, true);
        for (Method m : c.getDeclaredMethods()) {
            due(m + " has few parameters", m.getParameterCount() <= MOST_PARAMETERS, true);
        }
    }
}
