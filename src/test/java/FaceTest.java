import java.lang.reflect.Constructor;
import java.lang.reflect.Field;
import java.lang.reflect.Method;
import java.lang.reflect.Modifier;
import java.util.Arrays;
import java.util.Set;
import java.util.TreeSet;

/** The class has the document's face and nothing else that is not private. */
public final class FaceTest {

    private static final String[] FACE = {
        "public static final int RunHeap.NONE",
        "public RunHeap(int)",
        "public int RunHeap.give(int)",
        "public int RunHeap.giveAligned(int,int)",
        "public boolean RunHeap.free(int)",
        "public boolean RunHeap.grow(int,int)",
        "public boolean RunHeap.trim(int,int)",
        "public boolean RunHeap.pin(int,boolean)",
        "public int RunHeap.get(int,int) throws java.util.NoSuchElementException,java.lang.IndexOutOfBoundsException",
        "public int RunHeap.set(int,int,int)"
            + " throws java.util.NoSuchElementException,java.lang.IndexOutOfBoundsException",
        "public int RunHeap.sizeOf(int)",
        "public int RunHeap.largest()",
        "public int RunHeap.count(int)",
        "public int RunHeap.freeAt(int)",
        "public int RunHeap.branch(int,int)"
            + " throws java.util.NoSuchElementException,java.lang.IllegalArgumentException",
        "public int RunHeap.advise(int)",
        "public int RunHeap.window()",
        "public int RunHeap.move(int,int)"
            + " throws java.lang.IndexOutOfBoundsException,java.lang.IllegalArgumentException",
        "public int RunHeap.apply()",
        "public int RunHeap.moved(int)"};

    public static void main(String[] args) {
        Set<String> seen = new TreeSet<>();
        for (Field f : RunHeap.class.getDeclaredFields()) {
            note(seen, f.getModifiers(), f.toGenericString());
        }
        for (Constructor<?> c : RunHeap.class.getDeclaredConstructors()) {
            note(seen, c.getModifiers(), c.toGenericString());
        }
        for (Method m : RunHeap.class.getDeclaredMethods()) {
            note(seen, m.getModifiers(), m.toGenericString());
        }
        Set<String> due = new TreeSet<>(Arrays.asList(FACE));
        int modifiers = RunHeap.class.getModifiers();
        boolean right = seen.equals(due) && Modifier.isPublic(modifiers) && Modifier.isFinal(modifiers);
        System.out.println(right ? "the face is the document's" : "the face is " + seen + ", due is " + due);
        if (!right) {
            System.exit(1);
        }
    }

    private static void note(Set<String> seen, int modifiers, String text) {
        if (!Modifier.isPrivate(modifiers)) {
            seen.add(text);
        }
    }
}
