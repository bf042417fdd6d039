import java.lang.reflect.Constructor;
import java.lang.reflect.Field;
import java.lang.reflect.Method;
import java.lang.reflect.Modifier;
import java.util.Set;
import java.util.TreeSet;

/** The public face is the document's, and nothing else is to be seen from outside. */
public final class FaceTest {
    private static final String[] FACE = {
        "public static final int RelativeFiles.NONE",
        "public RelativeFiles(int)",
        "public int RelativeFiles.open(int)",
        "public int RelativeFiles.write(int,long)",
        "public int RelativeFiles.read(int)",
        "public long RelativeFiles.value()",
        "public int RelativeFiles.start(int,int)",
        "public int RelativeFiles.next(boolean)",
        "public int RelativeFiles.rewrite(int,long)",
        "public int RelativeFiles.remove(int)",
        "public int RelativeFiles.number()",
        "public long RelativeFiles.cell(int) throws java.lang.ArrayIndexOutOfBoundsException",
        "public int RelativeFiles.records()",
        "public int RelativeFiles.digits(int)",
        "public int RelativeFiles.count(int)",
    };

    private static boolean isSeen(int modifiers, boolean synthetic) {
        return !Modifier.isPrivate(modifiers) && !synthetic;
    }

    private static Set<String> seen() {
        Set<String> found = new TreeSet<>();
        for (Field f : RelativeFiles.class.getDeclaredFields()) {
            if (isSeen(f.getModifiers(), f.isSynthetic())) {
                found.add(f.toString());
            }
        }
        for (Constructor<?> c : RelativeFiles.class.getDeclaredConstructors()) {
            if (isSeen(c.getModifiers(), c.isSynthetic())) {
                found.add(c.toString());
            }
        }
        for (Method m : RelativeFiles.class.getDeclaredMethods()) {
            if (isSeen(m.getModifiers(), m.isSynthetic())) {
                found.add(m.toString());
            }
        }
        return found;
    }

    public static void main(String[] args) {
        Set<String> due = new TreeSet<>(Set.of(FACE));
        Set<String> found = seen();
        int modifiers = RelativeFiles.class.getModifiers();
        boolean right = found.equals(due) && Modifier.isPublic(modifiers) && Modifier.isFinal(modifiers)
            && RelativeFiles.NONE == -1;
        System.out.println(right ? "the face is as due" : "the face is " + found + ", due is " + due);
        if (!right) {
            System.exit(1);
        }
    }
}
