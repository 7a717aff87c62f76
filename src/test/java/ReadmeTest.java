import java.io.ByteArrayOutputStream;
import java.io.IOException;
import java.io.PrintStream;
import java.lang.reflect.Method;
import java.lang.reflect.Modifier;
import java.nio.charset.StandardCharsets;
import java.nio.file.Files;
import java.nio.file.Path;

/** README.md's example is the one that is compiled, and prints what README.md says. */
public final class ReadmeTest {
    private ReadmeTest() {
    }

    public static void main(String[] args) throws IOException {
        String readme = Files.readString(Path.of("README.md"));
        String example = Files.readString(Path.of("src/example/java/Example.java"));
        Check.sentence("README.md");
        Check.same("the example", example, block(readme, "java"));
        Check.same("what the example prints", printed(), block(readme, "text"));
        for (Method method : PolarPlanimeter.class.getDeclaredMethods()) {
            if (Modifier.isPublic(method.getModifiers())) {
                String told = "| `" + method.getName() + "(";
                Check.due("is " + method.getName() + " told of", 1, readme.contains(told) ? 1 : 0);
            }
        }
        Check.end();
    }

    /** What stands in the first fenced block of this kind; nothing if there is none. */
    private static String block(String page, String kind) {
        String fence = "```";
        int begin = page.indexOf(fence + kind + "\n");
        if (begin < 0) {
            return "";
        }
        int from = begin + fence.length() + kind.length() + 1;
        int end = page.indexOf(fence, from);
        return end < 0 ? "" : page.substring(from, end);
    }

    private static String printed() {
        PrintStream screen = System.out;
        ByteArrayOutputStream bytes = new ByteArrayOutputStream();
        System.setOut(new PrintStream(bytes, true, StandardCharsets.UTF_8));
        Example.main(new String[0]);
        System.setOut(screen);
        return bytes.toString(StandardCharsets.UTF_8).replace(System.lineSeparator(), "\n");
    }
}
