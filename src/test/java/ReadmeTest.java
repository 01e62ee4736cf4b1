import java.io.IOException;
import java.lang.reflect.Field;
import java.lang.reflect.Method;
import java.lang.reflect.Modifier;
import java.nio.file.Files;
import java.nio.file.Path;
import java.util.Set;
import java.util.TreeSet;
import java.util.regex.Matcher;
import java.util.regex.Pattern;

/** What README.md says of calls, constants, commands and files. .ci/run tries its commands themselves. */
public final class ReadmeTest {
    private static final Pattern CALL = Pattern.compile("(?m)^\\| `(\\w+)\\(([^)]*)\\)` \\| [^|]+ \\|$");
    private static final Pattern FILE = Pattern.compile("`((?:src|\\.\\./shared|\\.ci)[^` *]*)`");
    private static final Pattern TEST = Pattern.compile("\\b((?:Edge|Promise\\d\\d)\\w+Test|FaceTest|AgainstModelTest|ReadmeTest)\\b");

    public static void main(String[] args) throws IOException, IllegalAccessException {
        String page = Files.readString(Path.of("README.md"));
        calls(page);
        constants(page);
        files(page);
        Due.same("the program shown", block(page, "java"), Files.readString(Path.of("src/example/java/Example.java")));
        Due.due("the page tells what the example prints", block(page, "text").isEmpty() ? 0 : 1, 1);
        Due.due("the page gives the command that uses the class", page.contains("\njava -cp build/use Example\n```") ? 1 : 0, 1);
        Due.due("the page gives the command that runs all tests", page.contains("```sh\n.ci/run\n```") ? 1 : 0, 1);
        Due.end();
    }

    private static void calls(String page) {
        Set<String> told = new TreeSet<>();
        for (Matcher row = CALL.matcher(page); row.find();) {
            told.add(row.group(1) + " with " + (row.group(2).isEmpty() ? 0 : row.group(2).split(", ").length));
        }
        Set<String> there = new TreeSet<>();
        for (Method method : KeptPlans.class.getDeclaredMethods()) {
            if (Modifier.isPublic(method.getModifiers())) {
                there.add(method.getName() + " with " + method.getParameterCount());
            }
        }
        Due.same("the table of calls", told.toString(), there.toString());
    }

    private static void constants(String page) throws IllegalAccessException {
        for (Field field : KeptPlans.class.getDeclaredFields()) {
            if (Modifier.isPublic(field.getModifiers())) {
                String told = "`" + field.getName() + "` (" + field.getInt(null);
                Due.due("the page tells " + told, page.contains(told) ? 1 : 0, 1);
            }
        }
    }

    private static void files(String page) {
        for (Matcher file = FILE.matcher(page); file.find();) {
            Due.due(file.group(1) + " is there", Files.exists(Path.of(file.group(1))) ? 1 : 0, 1);
        }
        for (Matcher test = TEST.matcher(page); test.find();) {
            Path source = Path.of("src/test/java", test.group(1) + ".java");
            Due.due(source + " is there", Files.exists(source) ? 1 : 0, 1);
        }
    }

    /** What stands between a fence with the name and the next fence; empty without one. */
    private static String block(String page, String name) {
        Matcher found = Pattern.compile("(?s)\n```" + name + "\n(.*?\n)```\n").matcher(page);
        return found.find() ? found.group(1) : "";
    }
}
