import java.io.ByteArrayOutputStream;
import java.io.IOException;
import java.io.PrintStream;
import java.lang.reflect.Method;
import java.lang.reflect.Modifier;
import java.nio.charset.StandardCharsets;
import java.nio.file.Files;
import java.nio.file.Path;
import java.util.HexFormat;

/** What README.md says of the class holds. */
public final class ReadmeTest {
    private static final Check CHECK = new Check();

    private ReadmeTest() {
    }

    public static void main(String[] args) throws IOException {
        String readme = Files.readString(Path.of("README.md"));
        exampleStandsInIt(readme);
        exampleDoesWhatIsSaid(readme);
        everyCallIsTold(readme);
        CHECK.due("the command that runs the tests", readme.contains("```sh\n.ci/run\n```"), true);
        CHECK.end();
    }

    private static void exampleStandsInIt(String readme) throws IOException {
        String example = Files.readString(Path.of("src/test/java/ReadmeExample.java"));
        String head = "main(String[] args) {\n";
        String body = example.substring(example.indexOf(head) + head.length(), example.lastIndexOf("\n    }\n}"));
        String code = body.indent(-8);
        CHECK.due("the example is README's", readme.contains("```java\n" + code + "```"), true);
    }

    private static void exampleDoesWhatIsSaid(String readme) {
        String printed = printedByExample();
        CHECK.due("it prints what README says: " + printed, readme.contains("```text\n" + printed + "```"), true);
        byte[] key = Reference.keyOf(Rows.text("password"), Rows.text("salt"), 1000, 40);
        CHECK.due("it prints the key", printed.contains("\n" + HexFormat.of().formatHex(key) + "\n"), true);
    }

    private static String printedByExample() {
        ByteArrayOutputStream bytes = new ByteArrayOutputStream();
        PrintStream out = System.out;
        System.setOut(new PrintStream(bytes, true, StandardCharsets.US_ASCII));
        ReadmeExample.main(new String[0]);
        System.setOut(out);
        return bytes.toString(StandardCharsets.US_ASCII).replace(System.lineSeparator(), "\n");
    }

    private static void everyCallIsTold(String readme) {
        for (Method m : KeyMaker.class.getDeclaredMethods()) {
            if (Modifier.isPublic(m.getModifiers())) {
                CHECK.due(m.getName() + " is told", readme.contains("| `" + m.getName() + "("), true);
            }
        }
    }
}
