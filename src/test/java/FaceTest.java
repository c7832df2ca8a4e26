import java.lang.reflect.Constructor;
import java.lang.reflect.Field;
import java.lang.reflect.Method;
import java.lang.reflect.Modifier;
import java.util.Arrays;
import java.util.TreeSet;

/** The public face: exactly the members that the document lists, and nothing else that is not private. */
public final class FaceTest {
    private static final String[] FACE = {
        "boolean back(int)",
        "boolean off(int, boolean)",
        "int buy(int)",
        "int cost(int)",
        "int count(int)",
        "int flight(int, int, int, int, int, int)",
        "int late(int, int, int)",
        "int leave(int)",
        "int move()",
        "int of(int, int) throws java.util.NoSuchElementException",
        "int party(int, int, int, int, boolean)",
        "int rounds(int, int, int)",
        "int set(int, int)",
        "int stranded()",
        "int told(int, int)",
        "int undo()",
        "static int NONE",
        "TooMany()",
    };

    public static void main(String[] args) {
        TreeSet<String> seen = new TreeSet<>();
        for (Method m : TooMany.class.getDeclaredMethods()) {
            if (!Modifier.isPrivate(m.getModifiers())) {
                seen.add(plain(m.toGenericString()));
            }
        }
        for (Constructor<?> c : TooMany.class.getDeclaredConstructors()) {
            if (!Modifier.isPrivate(c.getModifiers())) {
                seen.add(plain(c.toGenericString()));
            }
        }
        for (Field f : TooMany.class.getDeclaredFields()) {
            if (!Modifier.isPrivate(f.getModifiers())) {
                seen.add(plain(f.toGenericString()));
            }
        }
        TreeSet<String> due = new TreeSet<>(Arrays.asList(FACE));
        boolean isFinal = Modifier.isFinal(TooMany.class.getModifiers());
        boolean isPublic = Modifier.isPublic(TooMany.class.getModifiers());
        if (!seen.equals(due) || !isFinal || !isPublic) {
            System.out.println("the face is " + seen + ", due is " + due + ", in a public final class");
            System.exit(1);
        }
    }

    private static String plain(String member) {
        return member.replace("public ", "").replace("final ", "").replace("TooMany.", "").replace(",", ", ");
    }
}
