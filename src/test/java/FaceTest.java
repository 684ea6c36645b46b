import java.io.IOException;
import java.lang.reflect.Constructor;
import java.lang.reflect.Field;
import java.lang.reflect.Method;
import java.lang.reflect.Modifier;
import java.nio.file.Files;
import java.nio.file.Path;
import java.util.Set;
import java.util.TreeSet;

/** The class has the face that stands in the document, and nothing else that others can see. */
public final class FaceTest {
    private static final Check CHECK = new Check();

    private FaceTest() {
    }

    public static void main(String[] args) throws IOException {
        Set<String> face = faceOf(Files.readString(Path.of("../shared/DOC.md")));
        CHECK.due("members in the document's face", face.size(), 15);
        Set<String> seen = seenMembers();
        for (String member : face) {
            CHECK.due(member + " is there", seen.contains(member), true);
        }
        for (String member : seen) {
            CHECK.due(member + " is of the face", face.contains(member), true);
        }
        int modifiers = KeyMaker.class.getModifiers();
        CHECK.due("public and final", Modifier.isPublic(modifiers) && Modifier.isFinal(modifiers), true);
        CHECK.due("extends nothing", KeyMaker.class.getSuperclass() == Object.class, true);
        CHECK.due("implements nothing", KeyMaker.class.getInterfaces().length, 0);
        CHECK.due("NONE", KeyMaker.NONE, -1);
        CHECK.end();
    }

    /** The members between the document's first line "public final class" and its end, as reflection tells them. */
    private static Set<String> faceOf(String document) {
        String head = "public final class KeyMaker {\n";
        int from = document.indexOf(head) + head.length();
        Set<String> face = new TreeSet<>();
        for (String line : document.substring(from, document.indexOf("\n}", from)).split("\n")) {
            face.add(asReflectionTells(line.strip()));
        }
        return face;
    }

    private static String asReflectionTells(String line) {
        return line.replaceAll("( = .*)?;$", "")
            .replaceAll("(int|boolean) \\w+(?=[,)])", "$1")
            .replace(", ", ",")
            .replaceAll(" (\\w+)(\\(.*\\))?$", " KeyMaker.$1$2")
            .replace("KeyMaker.KeyMaker", "KeyMaker");
    }

    private static Set<String> seenMembers() {
        Set<String> seen = new TreeSet<>();
        for (Field f : KeyMaker.class.getDeclaredFields()) {
            addVisible(seen, f.getModifiers(), f.toString());
        }
        for (Constructor<?> c : KeyMaker.class.getDeclaredConstructors()) {
            addVisible(seen, c.getModifiers(), c.toString());
        }
        for (Method m : KeyMaker.class.getDeclaredMethods()) {
            addVisible(seen, m.getModifiers(), m.toString());
        }
        return seen;
    }

    private static void addVisible(Set<String> seen, int modifiers, String member) {
        if (!Modifier.isPrivate(modifiers)) {
            seen.add(member);
        }
    }
}
