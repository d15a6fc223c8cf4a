import java.io.IOException;
import java.lang.reflect.Constructor;
import java.lang.reflect.Field;
import java.lang.reflect.Method;
import java.lang.reflect.Modifier;
import java.nio.charset.StandardCharsets;
import java.nio.file.Files;
import java.nio.file.Path;
import java.util.ArrayList;
import java.util.Arrays;
import java.util.List;
import java.util.TreeSet;
import java.util.regex.Matcher;
import java.util.regex.Pattern;

/** The face of the document, and those rules of LANGUAGE.md that a plain look at the source can find broken. */
public final class LanguageTest {
    private static final Path SOURCE = Path.of("src/main/java/SeaParcels.java");
    private static final Path DOCUMENT = Path.of("../shared/DOC.md");
    private static final int LONGEST_METHOD = 60;

    private static final String[] FORBIDDEN = {"throw", "throws", "try", "catch", "synchronized", "assert", "Object",
        "Exact", "System\\.(?!arraycopy)", "import", "package", "var", "protected", "->", "::", "hashCode",
        "toString", "equals", "float", "double", "Random", "Thread", "record", "new [A-Z]\\w*\\(\\) \\{",
        "static \\{", "while \\(true\\)", "for \\(;;\\)"};

    private static void face() throws IOException {
        TreeSet<String> told = new TreeSet<>();
        String document = Files.readString(DOCUMENT);
        String part = document.substring(document.indexOf("```java"), document.indexOf("## Terms"));
        Matcher m = Pattern.compile("public (int|long) (\\w+)\\(([^)]*)\\);").matcher(part);
        while (m.find()) {
            int parameters = m.group(3).isEmpty() ? 0 : m.group(3).split(",").length;
            told.add(m.group(1) + " " + m.group(2) + " " + parameters);
        }
        TreeSet<String> seen = new TreeSet<>();
        List<String> open = new ArrayList<>();
        for (Method one : SeaParcels.class.getDeclaredMethods()) {
            if (Modifier.isPublic(one.getModifiers())) {
                seen.add(one.getReturnType() + " " + one.getName() + " " + one.getParameterCount());
            } else if (!Modifier.isPrivate(one.getModifiers())) {
                open.add(one.getName());
            }
        }
        for (Field one : SeaParcels.class.getDeclaredFields()) {
            if (!Modifier.isPrivate(one.getModifiers())) {
                open.add(one.getName());
            }
        }
        Runs.due("face", "its methods", seen.toString(), told.toString());
        Runs.due("face", "how many", seen.size(), 40);
        Runs.due("face", "members that are neither public nor private", open.toString(), "[]");
        Constructor<?>[] makers = SeaParcels.class.getDeclaredConstructors();
        Runs.due("face", "constructors", Arrays.toString(makers), "[public SeaParcels()]");
        Runs.due("face", "the class", Modifier.toString(SeaParcels.class.getModifiers()), "public final");
    }

    private static void insides() {
        TreeSet<String> names = new TreeSet<>();
        for (Method one : SeaParcels.class.getDeclaredMethods()) {
            if (Modifier.isPublic(one.getModifiers())) {
                names.add(one.getName());
            }
        }
        Class<?>[] inside = SeaParcels.class.getDeclaredClasses();
        Runs.due("rule 11", "twelve classes at most", inside.length <= 12 ? 1 : 0, 1);
        List<Class<?>> all = new ArrayList<>(List.of(inside));
        all.add(SeaParcels.class);
        for (Class<?> c : all) {
            int own = 0;
            for (Field f : c.getDeclaredFields()) {
                boolean constant = Modifier.isStatic(f.getModifiers());
                own += constant ? 0 : 1;
                Runs.due("rule 5", c + "." + f.getName(), constant && !Modifier.isFinal(f.getModifiers()) ? 1 : 0, 0);
            }
            Runs.due("rule 11", c + ", twenty fields at most", own <= 20 ? 1 : 0, 1);
            for (Method m : c.getDeclaredMethods()) {
                boolean bears = !Modifier.isPublic(m.getModifiers()) && names.contains(m.getName());
                Runs.due("rule 1", m + " bears a public one's name", bears ? 1 : 0, 0);
                Runs.due("rule 11", m + " takes seven at most", m.getParameterCount() <= 7 ? 1 : 0, 1);
            }
            if (c != SeaParcels.class) {
                int mods = c.getModifiers();
                boolean right = Modifier.isStatic(mods) && !Modifier.isPublic(mods) && !Modifier.isProtected(mods);
                Runs.due("rule 1", c + " is static and closed", right ? 1 : 0, 1);
            }
        }
    }

    private static void words() throws IOException {
        String source = Files.readString(SOURCE, StandardCharsets.US_ASCII);
        String bare = source.replaceAll("(?s)/\\*.*?\\*/", "").replaceAll("//[^\n]*", "")
            .replaceAll("\"[^\"]*\"", "\"\"");
        for (String word : FORBIDDEN) {
            String sought = Character.isLetter(word.charAt(0)) && word.matches("\\w+") ? "\\b" + word + "\\b" : word;
            Matcher m = Pattern.compile(sought).matcher(bare);
            Runs.due("rules 4, 6", word, m.find() ? 1 : 0, 0);
        }
    }

    private static void lengths() throws IOException {
        List<String> lines = Files.readAllLines(SOURCE);
        int begin = -1;
        String head = "";
        for (int i = 0; i < lines.size(); i++) {
            String line = lines.get(i);
            if (line.matches(" {4}( {4})?[\\w\\[\\] ]+\\([^;]*\\) \\{")) {
                begin = i;
                head = line;
            } else if (begin >= 0 && line.equals(head.replaceAll("\\S.*", "") + "}")) {
                Runs.due("rule 11", head.trim() + " is short", i - begin < LONGEST_METHOD ? 1 : 0, 1);
                begin = -1;
            }
        }
    }

    public static void main(String[] args) throws IOException {
        face();
        insides();
        words();
        lengths();
        Runs.end();
    }
}
