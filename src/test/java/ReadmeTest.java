import java.io.File;
import java.io.IOException;
import java.lang.reflect.Method;
import java.lang.reflect.Modifier;
import java.nio.file.Files;
import java.nio.file.Path;
import java.util.regex.Matcher;
import java.util.regex.Pattern;

/** What README.md shows: its calls answer what stands behind them, and it names each method and each test. */
public final class ReadmeTest {
    private static final Pattern BLOCK = Pattern.compile("(?s)```java\n(.*?)```");
    private static final Pattern LINE = Pattern.compile("(?:(?:int|long) \\w+ = )?dike\\.(\\w+\\(.*\\)); +// (-?\\d+)\\b.*");

    public static void main(String[] args) throws IOException {
        String readme = Files.readString(Path.of("README.md"));
        int blocks = 0;
        for (Matcher block = BLOCK.matcher(readme); block.find();) {
            calls(block.group(1));
            blocks++;
        }
        Due.is("blocks with calls", blocks, 3);
        names(readme);
        Due.end();
    }

    private static void calls(String block) {
        WalkTheDike x = new WalkTheDike();
        for (String line : block.split("\n")) {
            Matcher m = LINE.matcher(line);
            if (m.matches()) {
                Due.is("README.md, " + m.group(1), Call.on(x, m.group(1)), Long.parseLong(m.group(2)));
            } else {
                Due.is("README.md, a call and its answer: " + line,
                    line.isEmpty() || line.equals("WalkTheDike dike = new WalkTheDike();") ? 1 : 0, 1);
            }
        }
    }

    private static void names(String readme) {
        for (Method m : WalkTheDike.class.getDeclaredMethods()) {
            if (Modifier.isPublic(m.getModifiers())) {
                Due.is("README.md names " + m.getName() + "()",
                    Pattern.compile("[`.]" + m.getName() + "[(`]").matcher(readme).find() ? 1 : 0, 1);
            }
        }
        for (String file : new File("src/test/java").list()) {
            if (file.endsWith("Test.java")) {
                Due.is("README.md names " + file, readme.contains("`" + file.replace(".java", "") + "`") ? 1 : 0, 1);
            }
        }
    }
}
