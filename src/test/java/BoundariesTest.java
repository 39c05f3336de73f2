import java.io.IOException;
import java.lang.reflect.Method;
import java.nio.file.Files;
import java.nio.file.Path;
import java.util.Arrays;
import java.util.Set;
import java.util.TreeSet;
import java.util.regex.Matcher;
import java.util.regex.Pattern;

/** The list of boundary cases names tests that there are, and every test of the edge classes stands in it. */
final class BoundariesTest {
    private static final Class<?>[] EDGE_CLASSES = {RoundTest.class, SumEdgeTest.class, ServeTest.class, TimerEdgeTest.class,
        QueueEdgeTest.class, DisplayEdgeTest.class, LongUseTest.class};

    public static void main(String[] args) throws IOException {
        Set<String> named = new TreeSet<>();
        String list = Files.readString(Path.of("src/test/BOUNDARIES.md"));
        Matcher matcher = Pattern.compile("`(\\w+Test)\\.(\\w+)`").matcher(list);
        while (matcher.find()) {
            named.add(matcher.group(1) + "." + matcher.group(2));
            Check.equal("there is " + matcher.group(), exists(matcher.group(1), matcher.group(2)), true);
        }
        for (Class<?> edges : EDGE_CLASSES) {
            Arrays.stream(edges.getDeclaredMethods()).filter(BoundariesTest::isTest).forEach(method -> {
                String name = edges.getSimpleName() + "." + method.getName();
                Check.equal("the list has " + name, named.contains(name), true);
            });
        }
        Check.end();
    }

    /** Tests take nothing, or one address; helpers take or answer more. */
    private static boolean isTest(Method method) {
        boolean byAddress = Arrays.equals(method.getParameterTypes(), new Class<?>[] {int.class});
        boolean answersNothing = method.getReturnType() == void.class && !method.isSynthetic();
        return answersNothing && (method.getParameterCount() == 0 || byAddress);
    }

    private static boolean exists(String type, String name) {
        try {
            return Arrays.stream(Class.forName(type).getDeclaredMethods()).anyMatch(method -> method.getName().equals(name));
        } catch (ClassNotFoundException e) {
            return false;
        }
    }
}
