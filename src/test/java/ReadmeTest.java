import java.io.IOException;
import java.lang.reflect.Method;
import java.lang.reflect.Modifier;
import java.nio.file.Files;
import java.nio.file.Path;

/** README.md tells every call, and its example answers as it says. */
public final class ReadmeTest {
    public static void main(String[] args) throws IOException {
        String readme = Files.readString(Path.of("README.md"));
        everyCall(readme);
        sameExample(readme);
        example();
        Due.end();
    }

    private static void everyCall(String readme) {
        for (Method method : LabelApplicator.class.getDeclaredMethods()) {
            if (Modifier.isPublic(method.getModifiers())) {
                Due.be(method.getName() + " is told", readme.contains("`" + method.getName() + "(") ? 1 : 0, 1);
            }
        }
    }

    /** Each line of the example, but for its comment, stands in example() too. */
    private static void sameExample(String readme) throws IOException {
        String test = Files.readString(Path.of("src/test/java/ReadmeTest.java"));
        String here = test.substring(test.indexOf("void example()"));
        int from = readme.indexOf("```java\n");
        int to = readme.indexOf("```\n", from + 1);
        Due.be("there is an example", from >= 0 && to > from ? 1 : 0, 1);
        if (from < 0 || to <= from) {
            return;
        }
        for (String line : readme.substring(from + "```java\n".length(), to).split("\n")) {
            String code = line.replaceAll(" *//.*", "").trim();
            Due.be("example() has " + code, here.contains(code) ? 1 : 0, 1);
        }
    }

    private static void example() {
        LabelApplicator x = new LabelApplicator();
        for (char letter : "5*(l47g3)".toCharArray()) {
            x.type(letter);
        }
        int items = x.load();
        int came = x.run(3, 100);
        int reason = x.latest(2);
        float pitch = Float.intBitsToFloat(x.pitch());
        int good = x.foretell(5, 100, 0);
        int window = x.best(1, 5, 100);
        Due.be("items", items, 10);
        Due.be("came", came, 3);
        Due.be("reason", reason, 0);
        Due.be("pitch is 50", pitch == 50.0f ? 1 : 0, 1);
        Due.be("good", good, 2);
        Due.be("window", window, 0);
    }
}
