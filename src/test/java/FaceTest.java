import java.lang.reflect.Constructor;
import java.lang.reflect.Field;
import java.lang.reflect.Method;
import java.lang.reflect.Modifier;
import java.util.Set;
import java.util.TreeSet;

/** The class has the document's face and nothing else that others can see. */
public final class FaceTest {
    private static final Set<String> FACE = Set.of(
        "public static final int KeyMaker.NONE",
        "public KeyMaker()",
        "public boolean KeyMaker.password(int)",
        "public boolean KeyMaker.four(int)",
        "public boolean KeyMaker.salt(int)",
        "public int KeyMaker.start(int,int)",
        "public int KeyMaker.step()",
        "public int KeyMaker.run(int)",
        "public int KeyMaker.left()",
        "public int KeyMaker.key(int)",
        "public void KeyMaker.reset()",
        "public int KeyMaker.many(int)",
        "public int KeyMaker.sum(int)",
        "public int KeyMaker.mark(int)",
        "public int KeyMaker.word(int,int)");

    private FaceTest() {
    }

    public static void main(String[] args) {
        Check check = new Check();
        Set<String> seen = new TreeSet<>();
        for (Field f : KeyMaker.class.getDeclaredFields()) {
            addVisible(seen, f.getModifiers(), f.toString());
            boolean state = Modifier.isStatic(f.getModifiers()) && !Modifier.isFinal(f.getModifiers());
            check.due("static state " + f, state, false);
        }
        for (Constructor<?> c : KeyMaker.class.getDeclaredConstructors()) {
            addVisible(seen, c.getModifiers(), c.toString());
        }
        for (Method m : KeyMaker.class.getDeclaredMethods()) {
            addVisible(seen, m.getModifiers(), m.toString());
        }
        check.due("the face " + seen, seen.equals(FACE), true);
        int modifiers = KeyMaker.class.getModifiers();
        check.due("public and final", Modifier.isPublic(modifiers) && Modifier.isFinal(modifiers), true);
        check.end();
    }

    private static void addVisible(Set<String> seen, int modifiers, String member) {
        if (!Modifier.isPrivate(modifiers)) {
            seen.add(member);
        }
    }
}
