import java.io.File;
import java.lang.reflect.Method;
import java.lang.reflect.Modifier;
import java.nio.file.Files;
import java.nio.file.Path;
import java.util.ArrayList;
import java.util.List;
import java.util.regex.Matcher;
import java.util.regex.Pattern;

/** The example in README.md answers what it says there, and the page names every call and every test. */
public final class ReadmeTest {
    private static final Pattern MADE = Pattern.compile("TemperIsles firth = new TemperIsles\\(\\);");
    private static final Pattern FED = Pattern.compile("for \\(char c : \"([^\"]*)\"\\.toCharArray\\(\\)\\) \\{ firth\\.feed\\(c\\); \\}");
    private static final Pattern CALLED = Pattern.compile("firth\\.(\\w+)\\(([-\\d, ]*)\\); +// (-?\\d+): \\S.*");
    private static int wrong = 0;
    private static int answers = 0;

    private static void hold(boolean holds, String what) {
        if (!holds) {
            wrong++;
            System.out.println("not so: " + what);
        }
    }

    /** The lines of the example; the loop that feeds the text, which has three, is put on one. */
    private static List<String> example(String page) {
        Matcher block = Pattern.compile("(?s)```java\n(.*?)```").matcher(page);
        List<String> lines = new ArrayList<>();
        while (block.find()) {
            for (String line : block.group(1).replaceAll("\\{\n +", "{ ").replaceAll("\n\\}", " }").split("\n")) {
                if (!line.isBlank()) {
                    lines.add(line);
                }
            }
        }
        return lines;
    }

    private static void play(List<String> lines) throws Exception {
        TemperIsles firth = null;
        for (String line : lines) {
            Matcher fed = FED.matcher(line);
            Matcher called = CALLED.matcher(line);
            if (MADE.matcher(line).matches()) {
                firth = new TemperIsles();
            } else if (firth != null && fed.matches()) {
                for (char c : fed.group(1).toCharArray()) {
                    hold(firth.feed(c) > 0, line);
                }
            } else if (firth != null && called.matches()) {
                long got = answer(firth, called.group(1), called.group(2));
                answers++;
                hold(got == Long.parseLong(called.group(3)), line + " (it answers " + got + ")");
            } else {
                hold(false, "a line of the example that tells no answer: " + line);
            }
        }
    }

    private static long answer(TemperIsles firth, String name, String told) throws Exception {
        String[] parts = told.isBlank() ? new String[0] : told.split(", *");
        Object[] numbers = new Object[parts.length];
        Class<?>[] types = new Class<?>[parts.length];
        for (int p = 0; p < parts.length; p++) {
            numbers[p] = Integer.valueOf(parts[p]);
            types[p] = int.class;
        }
        return ((Number) TemperIsles.class.getMethod(name, types).invoke(firth, numbers)).longValue();
    }

    /** Each call stands in the table with as many arguments as it takes. */
    private static void calls(String page) {
        for (Method m : TemperIsles.class.getDeclaredMethods()) {
            if (Modifier.isPublic(m.getModifiers())) {
                String one = m.getParameterCount() == 0 ? "" : "\\w+" + ", \\w+".repeat(m.getParameterCount() - 1);
                hold(Pattern.compile("`" + m.getName() + "\\(" + one + "\\)`").matcher(page).find(), "the page names " + m.getName());
            }
        }
    }

    private static void tests(String page) {
        File[] files = new File("src/test/java").listFiles();
        hold(files != null && files.length > 0, "there are tests");
        for (File file : files == null ? new File[0] : files) {
            String name = file.getName().replace(".java", "");
            hold(page.contains("- `" + name + "`: "), "the page tells of " + name);
        }
        Matcher told = Pattern.compile("(?m)^- `(\\w+Test)`: ").matcher(page);
        while (told.find()) {
            hold(new File("src/test/java/" + told.group(1) + ".java").isFile(), "there is a test " + told.group(1));
        }
        hold(page.contains("    bash .ci/run\n") && new File(".ci/run").canExecute(), "the script that the page names is there");
    }

    public static void main(String[] args) throws Exception {
        String page = Files.readString(Path.of("README.md"));
        play(example(page));
        hold(answers > 0, "there is an example");
        calls(page);
        tests(page);
        System.out.println(answers + " answers of the example looked at, " + wrong + " things wrong");
        if (wrong != 0) {
            System.exit(1);
        }
    }
}
