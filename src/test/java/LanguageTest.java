import java.io.IOException;
import java.lang.reflect.Method;
import java.lang.reflect.Modifier;
import java.nio.file.Files;
import java.nio.file.Path;
import java.util.ArrayList;
import java.util.List;
import java.util.Set;
import java.util.TreeSet;
import java.util.regex.Matcher;
import java.util.regex.Pattern;

/** Looks in the source of the class for what LANGUAGE.md rules out, as far as words and sizes show it. */
public final class LanguageTest {
    private static final String[] RULED_OUT = {"\\bimport\\b", "\\bpackage\\b", "\\bprotected\\b", "\\bthrows?\\b",
        "\\btry\\b", "\\bcatch\\b", "\\bfinally\\b", "\\bassert\\b", "\\bsynchronized\\b", "->", "::", "@",
        "\\b(?!Math\\.)[A-Z]\\w*\\.(?!length\\b)\\w", "Math\\.(?!max\\b|min\\b|abs\\b)", "\\bstatic \\{", "\\bdouble\\b",
        "\\bwhile \\(true\\)", "\\bfor \\(;;\\)", "\\bvar\\b", "\\bstatic (?!final )\\w+ \\w+( =|;)",
        "\\bstatic final float\\b", "\\bnative\\b", "\\bjava\\b",
        // a constructor that is given nothing hands out nothing
        "\\bnew [A-Z]\\w*\\((?!\\))"};
    private static final String METHOD = "\n( +)(?:public |private |static )*[\\w\\[\\]]+ ?\\w*\\(([^)]*)\\) \\{\n(.*?)\n\\1\\}\n";

    public static void main(String[] args) throws IOException {
        String source = Files.readString(Path.of("src/main/java/LabelApplicator.java"));
        for (int i = 0; i < source.length(); i++) {
            if (source.charAt(i) > 126) {
                Due.be("the sign at " + i, source.charAt(i), 126);
            }
        }
        String code = source.replaceAll("(?s)/\\*.*?\\*/", "").replaceAll("//[^\n]*", "");
        code = code.replaceAll("'.'", "0").replaceAll("\"[^\"\n]*\"", "TEXT");
        for (String pattern : RULED_OUT) {
            Matcher found = Pattern.compile(pattern).matcher(code);
            if (found.find()) {
                Due.be("the rule against " + pattern + " at '" + found.group() + "'", 1, 0);
            }
        }
        sizes(code);
        names();
        Due.end();
    }

    /** No private method bears the name of a public one. */
    private static void names() {
        Set<String> open = new TreeSet<>();
        List<Method> others = new ArrayList<>();
        for (Method method : LabelApplicator.class.getDeclaredMethods()) {
            if (Modifier.isPublic(method.getModifiers())) {
                open.add(method.getName());
            } else {
                others.add(method);
            }
        }
        Due.be("methods of the face", open.size(), 19);
        for (Class<?> inside : LabelApplicator.class.getDeclaredClasses()) {
            others.addAll(List.of(inside.getDeclaredMethods()));
        }
        for (Method method : others) {
            Due.be("the name of " + method, open.contains(method.getName()) ? 1 : 0, 0);
        }
    }

    private static void sizes(String code) {
        Matcher method = Pattern.compile(METHOD, Pattern.DOTALL).matcher(code);
        int methods = 0;
        for (int from = 0; method.find(from); from = method.end() - 1) {
            methods++;
            Due.be("more than 60 lines of " + method.group(), method.group(3).split("\n").length > 60 ? 1 : 0, 0);
            Due.be("more than 7 parameters of " + method.group(), method.group(2).split(",").length > 7 ? 1 : 0, 0);
        }
        Due.be("methods are found", methods > 80 ? 1 : 0, 1);
        Due.be("at most 12 classes", code.split("\\bclass\\b").length - 1 > 12 ? 1 : 0, 0);
        for (String one : code.split("\\bclass\\b")) {
            int fields = one.split("\n +(?!return )(private )?(final )?[\\w\\[\\]]+ \\w+;(?=\n)").length - 1;
            Due.be("more than 20 fields in" + one.split("\n")[0], fields > 20 ? 1 : 0, 0);
        }
    }
}
