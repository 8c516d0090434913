import java.io.IOException;
import java.lang.reflect.Method;
import java.lang.reflect.Modifier;
import java.nio.file.Files;
import java.nio.file.Path;
import java.util.List;
import java.util.regex.Matcher;
import java.util.regex.Pattern;

/** README.md: the calls shown there answer what is written behind them, and each call of the face is named. */
public final class ReadmeTest {
    private static final Pattern CALL = Pattern.compile("x\\.(\\w+)\\((.*)\\); +// ([^:]+)(: .*)?");

    private final Check check = new Check();
    private Leastlex x = new Leastlex();
    private int calls;

    public static void main(String[] args) throws IOException {
        List<String> text = Files.readAllLines(Path.of(args.length > 0 ? args[0] : ".", "README.md"));
        ReadmeTest test = new ReadmeTest();
        test.makeCalls(text);
        test.findNames(String.join("\n", text));
        test.check.same("README.md shows calls", true, test.calls > 0);
        test.check.end();
    }

    private void makeCalls(List<String> text) {
        boolean isShown = false;
        for (String line : text) {
            if (line.startsWith("```")) {
                isShown = line.equals("```java");
            } else if (isShown) {
                show(line);
            }
        }
    }

    private void show(String line) {
        if (line.equals("Leastlex x = new Leastlex();")) {
            x = new Leastlex();
            return;
        }
        Matcher shown = CALL.matcher(line);
        check.same("\"" + line + "\" is a call", true, shown.matches());
        if (shown.matches()) {
            String given = shown.group(2).replace("'", "").replace(",", "");
            String answer = new Call((shown.group(1) + " " + given).trim()).on(x);
            check.same("README.md: " + line, shown.group(3).replace("'", "").trim(), answer);
            calls++;
        }
    }

    private void findNames(String text) {
        for (Method method : Leastlex.class.getDeclaredMethods()) {
            if (Modifier.isPublic(method.getModifiers())) {
                check.same("README.md names " + method.getName(), true, text.contains("`" + method.getName() + "`"));
            }
        }
    }
}
