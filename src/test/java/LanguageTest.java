import java.io.IOException;
import java.lang.reflect.Field;
import java.lang.reflect.Method;
import java.lang.reflect.Modifier;
import java.nio.file.Files;
import java.nio.file.Path;
import java.util.HashSet;
import java.util.Set;
import java.util.regex.Matcher;
import java.util.regex.Pattern;

/** The rules of LANGUAGE.md, as far as the class and its text show plainly that they are kept. */
public final class LanguageTest {
    private static final Set<String> LIBRARY = Set.of("Arrays.fill", "Integer.rotateRight", "Math.min",
        "System.arraycopy");
    private static final Pattern MADE = Pattern.compile(
        "private final (int\\[\\] \\w+ = new int\\[[A-Z_ +*]+\\]|(\\w+) \\w+ = new \\2\\(\\));");
    private static final Check CHECK = new Check();

    private LanguageTest() {
    }

    public static void main(String[] args) throws IOException {
        classes();
        namesOfPrivateMethods();
        String text = Files.readString(Path.of("src/main/java/KeyMaker.java"));
        String code = text.replaceAll("(?s)/\\*.*?\\*/", "").replaceAll("//[^\n]*", "");
        forbiddenWords(code);
        library(code);
        objectsAreMadeWithTheirOwner(code);
        staticRowsAreNeverChanged(code);
        shortMethods(text);
        callsStayShallow(code);
        CHECK.end();
    }

    private static void classes() {
        CHECK.about("rules 1, 2, 5 and 11");
        CHECK.due("a package", KeyMaker.class.getPackageName().isEmpty(), true);
        CHECK.due("at most eleven classes inside", KeyMaker.class.getDeclaredClasses().length <= 11, true);
        dueFields(KeyMaker.class);
        for (Class<?> inside : KeyMaker.class.getDeclaredClasses()) {
            int modifiers = inside.getModifiers();
            CHECK.due(inside + " is static", Modifier.isStatic(modifiers), true);
            CHECK.due(inside + " is seen", Modifier.isPublic(modifiers) || Modifier.isProtected(modifiers), false);
            dueFields(inside);
        }
    }

    private static void dueFields(Class<?> owner) {
        int fields = 0;
        for (Field f : owner.getDeclaredFields()) {
            if (Modifier.isStatic(f.getModifiers())) {
                CHECK.due(f + " is final", Modifier.isFinal(f.getModifiers()), true);
                CHECK.due(f + " is a constant", f.getType() == int.class || f.getType() == int[].class, true);
            } else {
                fields++;
            }
        }
        CHECK.due(owner + " has at most twenty fields", fields <= 20, true);
    }

    private static void namesOfPrivateMethods() {
        CHECK.about("rules 1 and 11");
        Set<String> face = new HashSet<>();
        for (Method m : KeyMaker.class.getDeclaredMethods()) {
            if (Modifier.isPublic(m.getModifiers())) {
                face.add(m.getName());
            }
        }
        dueOtherNames(face, KeyMaker.class);
        for (Class<?> inside : KeyMaker.class.getDeclaredClasses()) {
            dueOtherNames(face, inside);
        }
    }

    private static void dueOtherNames(Set<String> face, Class<?> owner) {
        for (Method m : owner.getDeclaredMethods()) {
            boolean taken = !Modifier.isPublic(m.getModifiers()) && face.contains(m.getName());
            CHECK.due(m + " bears the name of a public one", taken, false);
            CHECK.due(m + " takes at most seven", m.getParameterCount() <= 7, true);
        }
    }

    private static void forbiddenWords(String code) {
        CHECK.about("rules 2, 3, 6 and 13");
        String[] words = {"throw", "throws", "try", "catch", "synchronized", "assert", "volatile", "native", "var",
            "Object", "Thread", "Random", "equals", "hashCode", "toString"};
        for (String word : words) {
            CHECK.due(word, Pattern.compile("\\b" + word + "\\b").matcher(code).find(), false);
        }
        CHECK.due("a lambda", code.contains("->"), false);
        CHECK.due("a method reference", code.contains("::"), false);
        CHECK.due("while", Pattern.compile("\\bwhile\\b").matcher(code).find(), false);
        CHECK.due("a static initialiser", Pattern.compile("\\bstatic\\s*\\{").matcher(code).find(), false);
    }

    private static void library(String code) {
        CHECK.about("rule 4");
        Matcher imported = Pattern.compile("\\bimport\\s+([^;]+);").matcher(code);
        while (imported.find()) {
            CHECK.due("import " + imported.group(1), imported.group(1).equals("java.util.Arrays"), true);
        }
        Matcher used = Pattern.compile("\\b[A-Z]\\w*[a-z]\\w*\\.\\w+").matcher(code);
        while (used.find()) {
            CHECK.due(used.group(), LIBRARY.contains(used.group()), true);
        }
    }

    /**
     * No call makes objects, so that the room of a run holds whatever its calls are, and what is made is given
     * nothing of its owner.
     */
    private static void objectsAreMadeWithTheirOwner(String code) {
        CHECK.about("rule 12");
        for (String line : code.split("\n")) {
            if (Pattern.compile("\\bnew\\b").matcher(line).find()) {
                CHECK.due(line.strip(), MADE.matcher(line.strip()).matches(), true);
            }
        }
    }

    private static void staticRowsAreNeverChanged(String code) {
        CHECK.about("rule 5");
        Matcher row = Pattern.compile("\\bstatic final int\\[\\] (\\w+) = \\{").matcher(code);
        int rows = 0;
        while (row.find()) {
            rows++;
            String name = "\\b" + row.group(1) + "\\b";
            // Read at a place, asked for its length, or copied from: nothing else names it.
            String rest = code.replaceAll("static final int\\[\\] " + name, "")
                .replaceAll(name + "(\\[\\w+\\](?!\\s*([-+*/%&|^]|<<|>>>?)?=[^=])|\\.length)", "")
                .replaceAll("System\\.arraycopy\\(" + name, "");
            CHECK.due(row.group(1) + " is read alone", Pattern.compile(name).matcher(rest).find(), false);
        }
        CHECK.due("rows written out in their initialiser", rows, 2);
    }

    private static void callsStayShallow(String code) {
        CHECK.about("rules 8 and 11");
        CallDepth calls = new CallDepth(code);
        CHECK.due("methods that bear one name", calls.namesTwice(), 0);
        for (Method m : KeyMaker.class.getDeclaredMethods()) {
            if (Modifier.isPublic(m.getModifiers())) {
                int depth = calls.of(m.getName());
                CHECK.due(m.getName() + " is found", depth >= 1, true);
                CHECK.due(m.getName() + " goes " + depth + " calls deep: at most eight", depth <= 8, true);
            }
        }
        CHECK.due("run, the deepest", calls.of("run"), 8);
    }

    private static void shortMethods(String text) {
        CHECK.about("rule 11");
        String[] lines = text.split("\n");
        int begun = -1;
        String end = "";
        for (int n = 0; n < lines.length; n++) {
            Matcher head = Pattern.compile("( {4}| {8})[a-z].*\\) \\{").matcher(lines[n]);
            if (begun < 0 && head.matches()) {
                begun = n;
                end = head.group(1) + "}";
            } else if (begun >= 0 && lines[n].equals(end)) {
                CHECK.due(lines[begun].strip() + " is short", n - begun < 60, true);
                begun = -1;
            }
        }
        CHECK.due("the end of the last method is found", begun, -1);
    }
}
