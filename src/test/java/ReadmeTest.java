import java.io.IOException;
import java.lang.reflect.Method;
import java.lang.reflect.Modifier;
import java.nio.file.Files;
import java.nio.file.Path;
import java.util.regex.Matcher;
import java.util.regex.Pattern;

/** What README.md tells of the class: its example answers so, and it names each call and each finding. */
public final class ReadmeTest {
    private static final Pattern EXAMPLE = Pattern.compile("(?m)^x\\.(\\w+\\([^)]*\\)); +// (-?\\d+): ");
    private static final int LEAST_ROWS = 10;

    private static void example(String readme) {
        SeaParcels x = new SeaParcels();
        Matcher m = EXAMPLE.matcher(readme);
        int rows = 0;
        while (m.find()) {
            Runs.more("README", x, m.group(1) + " = " + m.group(2));
            rows++;
        }
        Runs.due("README", "its example has rows", rows >= LEAST_ROWS ? 1 : 0, 1);
        long all = readme.lines().filter(line -> line.startsWith("x.")).count();
        Runs.due("README", "rows of its example that are looked at", rows, all);
    }

    private static void names(String readme) {
        for (Method one : SeaParcels.class.getDeclaredMethods()) {
            if (Modifier.isPublic(one.getModifiers())) {
                Runs.due("README", "names " + one.getName(), readme.contains("`" + one.getName() + "`") ? 1 : 0, 1);
            }
        }
        for (int i = 0; i < Runs.FINDINGS.length; i++) {
            String told = (Runs.LOW - i) + " " + Runs.FINDINGS[i];
            Runs.due("README", "tells " + told, readme.replaceAll("\\s+", " ").contains(told) ? 1 : 0, 1);
        }
    }

    public static void main(String[] args) throws IOException {
        String readme = Files.readString(Path.of("README.md"));
        example(readme);
        names(readme);
        Runs.end();
    }
}
