import java.io.IOException;
import java.lang.reflect.Method;
import java.lang.reflect.Modifier;
import java.nio.charset.StandardCharsets;
import java.nio.file.Files;
import java.nio.file.Path;
import java.util.regex.Matcher;
import java.util.regex.Pattern;

/** README.md tells how to use the class: its example answers what it says, and each call of the class is named. */
public final class ReadmeTest {
    private static final Pattern EXAMPLE = Pattern.compile("hall\\.(\\w+\\(.*\\)); +// (throws )?(-?\\w+).*");

    public static void main(String[] args) throws IOException {
        Due due = new Due();
        String readme = Files.readString(Path.of("README.md"), StandardCharsets.UTF_8);
        Run run = new Run("README.md", due);
        int examples = 0;
        for (String line : readme.split("\n")) {
            Matcher example = EXAMPLE.matcher(line);
            if (example.matches()) {
                String want = (example.group(2) == null ? "" : "throws.") + example.group(3);
                run.calls(example.group(1) + " = " + want);
                examples++;
            } else {
                due.same("README.md: " + line + " is no example", Boolean.toString(line.startsWith("hall.")), "false");
            }
        }
        due.same("README.md has examples", Boolean.toString(examples > 0), "true");
        for (Method method : DrawerHall.class.getDeclaredMethods()) {
            if (Modifier.isPublic(method.getModifiers())) {
                String call = "`" + method.getName() + "(";
                due.same("README.md names " + call, Boolean.toString(readme.contains(call)), "true");
            }
        }
        due.end();
    }
}
