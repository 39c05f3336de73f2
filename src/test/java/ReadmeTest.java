import java.io.IOException;
import java.lang.reflect.Method;
import java.lang.reflect.Modifier;
import java.nio.file.Files;
import java.nio.file.Path;
import java.util.List;
import java.util.regex.Matcher;
import java.util.regex.Pattern;
import java.util.stream.Collectors;

/** README.md names every call of the face, and its examples answer what their comments tell. */
final class ReadmeTest {
    public static void main(String[] args) throws IOException {
        String readme = Files.readString(Path.of("README.md"));
        everyCallIsNamed(readme);
        everyTestThatIsNamedExists(readme);
        theExamplesAreTheseOnes(readme);
        sumOfTwo();
        keyWakesTheProcessor();
        Check.end();
    }

    private static void sumOfTwo() {
        KeyboardKit kit = new KeyboardKit();
        int[] program = {0x3E, 5, 0xC6, 7, 0x76};   // A becomes 5, 7 comes to A, HALT
        for (int i = 0; i < program.length; i++) {
            kit.poke(i, program[i]);
        }
        int ticks = kit.steps(3);                   // 18
        int a = kit.about(7);                       // 12
        Check.equal("ticks of the first example", ticks, 18);
        Check.equal("A of the first example", a, 12);
    }

    private static void keyWakesTheProcessor() {
        KeyboardKit kit = new KeyboardKit();
        int[] program = {
            0x31, 0x00, 0x03,                       // SP becomes 768
            0x3E, 14, 0x30,                         // SET MASK: 5.5 isn't masked, 6.5 and 7.5 are
            0xFB, 0x76                              // interrupts are ON, HALT
        };
        int[] service = {0xDB, 8, 0xD3, 8, 0xC9};   // the first key goes to A, A to the display, return
        for (int i = 0; i < program.length; i++) {
            kit.poke(i, program[i]);
        }
        for (int i = 0; i < service.length; i++) {
            kit.poke(44 + i, service[i]);
        }
        kit.key(5, true);
        int untilCounted = kit.steps(30);           // 129: the scans behind 64 and 128 ticks found the key down
        int status = kit.about(14);                 // 1: one key in the queue
        int served = kit.steps(4);                  // 40: the interrupt's call, two ports and the return
        int first = kit.shown(0);                   // 5
        Check.equal("ticks until the key is counted", untilCounted, 129);
        Check.equal("status when the key is counted", status, 1);
        Check.equal("ticks of the service", served, 40);
        Check.equal("the key shown", first, 5);
        Check.equal("status behind the service", kit.about(14), 0);
        Check.equal("PC behind HALT", kit.about(9), 8);
    }

    private static void everyCallIsNamed(String readme) {
        for (Method method : KeyboardKit.class.getDeclaredMethods()) {
            if (Modifier.isPublic(method.getModifiers())) {
                String[] parts = readme.split("\\| `" + method.getName() + "\\(", -1);
                Check.equal("rows of the README for " + method.getName(), parts.length - 1, 1);
            }
        }
    }

    private static void everyTestThatIsNamedExists(String readme) {
        Matcher names = Pattern.compile("\\w+Test\\b").matcher(readme);
        while (names.find()) {
            Check.equal("there is " + names.group(), Files.exists(Path.of("src/test/java", names.group() + ".java")), true);
        }
    }

    /** Each line of the README's Java stands in this file too, in the same order. */
    private static void theExamplesAreTheseOnes(String readme) throws IOException {
        List<String> own = trimmed(Files.readString(Path.of("src/test/java/ReadmeTest.java")));
        Matcher examples = Pattern.compile("```java\n(.*?)```", Pattern.DOTALL).matcher(readme);
        int from = 0;
        int lines = 0;
        while (examples.find()) {
            for (String line : trimmed(examples.group(1))) {
                int at = own.subList(from, own.size()).indexOf(line);
                Check.equal("this file has the README's line " + line, at >= 0, true);
                from += Math.max(0, at);
                lines++;
            }
        }
        Check.equal("lines of the README's examples", lines, 25);
    }

    private static List<String> trimmed(String text) {
        return text.lines().map(String::trim).collect(Collectors.toList());
    }
}
