import java.io.IOException;
import java.lang.reflect.Field;
import java.lang.reflect.Member;
import java.lang.reflect.Method;
import java.lang.reflect.Modifier;
import java.nio.file.DirectoryStream;
import java.nio.file.Files;
import java.nio.file.Path;
import java.util.regex.Pattern;

/**
 * README.md, in the folder in which this is run, names what there is to call and to run. That what it
 * shows can be done as it is shown, .ci/run looks at.
 */
public final class ReadmeTest {
    private static final Checks checks = new Checks();

    private static boolean isPublic(Member member) {
        return !member.isSynthetic() && Modifier.isPublic(member.getModifiers());
    }

    /** How a call is written: facts(), addFact(source), claim(facts, seconds). */
    private static Pattern written(Method method) {
        int parameters = method.getParameterCount();
        String between = parameters == 0 ? "" : "[a-z]+" + ", [a-z]+".repeat(parameters - 1);
        return Pattern.compile("`" + method.getName() + "\\(" + between + "\\)`");
    }

    private static void callsAreNamed(String readme) {
        for (Method method : Quarrelboard.class.getDeclaredMethods()) {
            if (isPublic(method)) {
                checks.due("README.md names the call " + written(method),
                        written(method).matcher(readme).find(), true);
            }
        }
    }

    private static void constantsAreNamed(String readme) {
        for (Field field : Quarrelboard.class.getDeclaredFields()) {
            if (isPublic(field)) {
                checks.due("README.md names the constant " + field.getName(),
                        readme.contains("`" + field.getName() + "`"), true);
            }
        }
    }

    private static void testsAreNamed(String readme) throws IOException {
        try (DirectoryStream<Path> files = Files.newDirectoryStream(Path.of("src/test/java"), "*.java")) {
            for (Path file : files) {
                String name = file.getFileName().toString().replace(".java", "");
                checks.due("README.md names the test " + name, readme.contains("`" + name + "`"), true);
            }
        }
    }

    public static void main(String[] args) throws IOException {
        String readme = Files.readString(Path.of("README.md"));
        callsAreNamed(readme);
        constantsAreNamed(readme);
        testsAreNamed(readme);
        checks.end();
    }
}
