import java.io.IOException;
import java.lang.reflect.InvocationTargetException;
import java.lang.reflect.Method;
import java.nio.file.Files;
import java.nio.file.Path;
import java.util.ArrayList;
import java.util.Arrays;
import java.util.List;
import java.util.Set;
import java.util.TreeSet;
import java.util.regex.Matcher;
import java.util.regex.Pattern;
import java.util.stream.Stream;

/**
 * What README.md says: a row for each call of the document's face with its exceptions in their order, examples
 * that answer what is written behind them, all tests and the commands that run them. Arguments: the project's
 * directory, the document.
 */
public final class ReadmeTest {
    private static final Pattern FACE = Pattern.compile("public (?:int|long|boolean) (\\w+)\\(([^)]*)\\)(?: throws ([^;]*))?;");
    private static final Pattern ROW = Pattern.compile("\\| `(\\w+\\([^)]*\\))` \\| (.*) \\| ?(.*) ?\\|");
    private static final Pattern THROWN = Pattern.compile("(?:^|; )\\*\\*([IAS])\\*\\* ([^;]+)");
    private static final Pattern MADE = Pattern.compile("NetworkCenters x = new NetworkCenters\\(\\);");
    private static final Pattern TYPED = Pattern.compile("for \\(char c : \"(.*)\"\\.toCharArray\\(\\)\\) \\{ x\\.type\\(c\\); \\}");
    private static final Pattern EXAMPLE = Pattern.compile("x\\.(\\w+)\\(([-\\d, ]*)\\); *// ((?:throws )?[-\\w]+)(?:[:;,].*)?");
    private static final Pattern COMMAND = Pattern.compile("java -cp (?:out|\"\\$out/project\") (\\w+)");

    private static NetworkCenters x;
    private static int checks;
    private static int wrong;

    public static void main(String[] args) throws IOException {
        Path project = Path.of(args[0]);
        List<String> readme = Files.readAllLines(project.resolve("README.md"));
        rows(readme, Files.readString(Path.of(args[1])));
        examples(readme);
        tests(project, String.join("\n", readme));
        System.out.println("ReadmeTest: " + checks + " checks, " + wrong + " wrong");
        if (wrong > 0) {
            System.exit(1);
        }
    }

    private static void check(boolean good, String what) {
        checks++;
        if (!good) {
            wrong++;
            System.out.println("ReadmeTest: " + what);
        }
    }

    // ---- the tables

    private static void rows(List<String> readme, String document) {
        List<String> due = new ArrayList<>();
        Matcher face = FACE.matcher(document);
        while (face.find()) {
            String thrown = face.group(3) == null ? "" : face.group(3).replace("IndexOutOfBoundsException", "I")
                    .replace("IllegalArgumentException", "A").replace("IllegalStateException", "S").replace(", ", "");
            due.add(face.group(1) + "(" + face.group(2).replaceAll("\\bint ", "") + ") " + thrown);
        }
        List<String> told = readme.stream().map(ReadmeTest::told).filter(row -> !row.isEmpty()).toList();
        check(due.size() == 35, "the document's face has " + due.size() + " calls");
        check(told.equals(due), "the rows are " + told + ", the face is " + due);
    }

    /** A row's call and the letters of its exceptions; empty for other lines. */
    private static String told(String line) {
        Matcher row = ROW.matcher(line);
        if (!row.matches()) {
            return "";
        }
        check(row.group(2).length() > 3, row.group(1) + " has no words on its answer");
        StringBuilder letters = new StringBuilder();
        Matcher thrown = THROWN.matcher(row.group(3));
        while (thrown.find()) {
            letters.append(thrown.group(1));
        }
        return row.group(1) + " " + letters;
    }

    // ---- the examples, one object through all of them

    private static void examples(List<String> readme) {
        Set<String> shown = new TreeSet<>();
        boolean code = false;
        for (String line : readme) {
            if (line.startsWith("```")) {
                code = line.equals("```java");
            } else if (code) {
                shown.add(example(line));
            }
        }
        for (Method m : NetworkCenters.class.getDeclaredMethods()) {
            boolean open = java.lang.reflect.Modifier.isPublic(m.getModifiers());
            check(!open || shown.contains(m.getName()), m.getName() + " has no example");
        }
    }

    /** Carries out a line; returns the name of its call. */
    private static String example(String line) {
        Matcher typed = TYPED.matcher(line);
        Matcher call = EXAMPLE.matcher(line);
        if (MADE.matcher(line).matches()) {
            x = new NetworkCenters();
        } else if (typed.matches()) {
            typed.group(1).chars().forEach(c -> x.type(c));
            return "type";
        } else if (call.matches()) {
            String got = answer(call.group(1), call.group(2));
            check(got.equals(call.group(3)), line + " answered " + got);
            return call.group(1);
        } else {
            check(false, "is no example: " + line);
        }
        return "";
    }

    private static String answer(String name, String list) {
        Object[] arguments = Stream.of(list.split(", ")).filter(a -> !a.isEmpty()).map(Integer::valueOf).toArray();
        try {
            Class<?>[] kinds = new Class<?>[arguments.length];
            Arrays.fill(kinds, int.class);
            Object answer = NetworkCenters.class.getMethod(name, kinds).invoke(x, arguments);
            return answer.equals(NetworkCenters.NONE) ? "NONE" : answer.toString();
        } catch (InvocationTargetException e) {
            return "throws " + e.getCause().getClass().getSimpleName();
        } catch (ReflectiveOperationException e) {
            return e.toString();
        }
    }

    // ---- the tests

    private static void tests(Path project, String readme) throws IOException {
        String script = Files.readString(project.resolve(".ci/run"));
        check(commands(readme).equals(commands(script)), "README runs " + commands(readme) + ", .ci/run " + commands(script));
        try (Stream<Path> files = Files.list(project.resolve("src/test/java"))) {
            files.map(f -> f.getFileName().toString().replace(".java", ""))
                    .forEach(name -> check(readme.contains("`" + name + "`"), name + " is not named"));
        }
    }

    private static Set<String> commands(String text) {
        Set<String> found = new TreeSet<>();
        Matcher m = COMMAND.matcher(text);
        while (m.find()) {
            found.add(m.group(1));
        }
        return found;
    }
}
