import java.io.File;
import java.io.IOException;
import java.lang.reflect.Field;
import java.lang.reflect.Method;
import java.lang.reflect.Modifier;
import java.nio.charset.StandardCharsets;
import java.nio.file.Files;
import java.nio.file.Path;
import java.util.ArrayList;
import java.util.List;
import java.util.Set;
import java.util.TreeSet;
import java.util.regex.Matcher;
import java.util.regex.Pattern;
import java.util.stream.Stream;

/** README.md: its example answers as it tells, its commands work, and nothing of the face is missing. */
final class ReadmeTest {
    private static final Path README = Path.of("README.md");
    private static final Path TESTS = Path.of("src/test/java");

    public static void main(String[] args) throws IOException, InterruptedException {
        String text = Files.readString(README, StandardCharsets.UTF_8);
        example(text);
        commands(text);
        face(text);
        errors(text);
        tests(text);
        isSo("for how many calls an object serves", text.contains("512"));
        Due.end();
    }

    private static void isSo(String what, boolean so) {
        Due.due(what, 1, so ? 1 : 0);
    }

    private static List<String> blocks(String text, String kind) {
        List<String> blocks = new ArrayList<>();
        Matcher matcher = Pattern.compile("(?s)```" + kind + "\n(.*?)```").matcher(text);
        while (matcher.find()) {
            blocks.add(matcher.group(1));
        }
        return blocks;
    }

    /** Each line of the example but the first one is a call, with its answer behind it. */
    private static void example(String text) {
        String[] lines = blocks(text, "java").get(0).split("\n");
        TwoShapes x = new TwoShapes();
        Pattern form = Pattern.compile("table\\.(\\w+)\\((.*)\\); +// (-?\\d+)(?::.*)?");
        for (int i = 1; i < lines.length; i++) {
            Matcher line = form.matcher(lines[i]);
            isSo("a call with its answer: " + lines[i], line.matches());
            if (line.matches()) {
                Call call = Call.of(line.group(1) + " " + line.group(2).replace(",", ""));
                Due.due(lines[i], Integer.parseInt(line.group(3)), call.on(x));
            }
        }
    }

    private static void commands(String text) throws IOException, InterruptedException {
        for (String block : blocks(text, "sh")) {
            for (String line : block.split("\n")) {
                if (line.equals(".ci/run")) {
                    // It runs this test, so here it is enough that it is there.
                    isSo(line + " can be run", Files.isExecutable(Path.of(line)));
                } else {
                    Process process = new ProcessBuilder("sh", "-c", line).redirectErrorStream(true)
                            .redirectOutput(new File("/dev/null")).start();
                    Due.due(line, 0, process.waitFor());
                }
            }
        }
    }

    private static void face(String text) {
        for (Method method : TwoShapes.class.getDeclaredMethods()) {
            if (Modifier.isPublic(method.getModifiers())) {
                isSo(method.getName() + " is told", text.contains("| `" + method.getName() + "("));
            }
        }
    }

    private static void errors(String text) {
        for (Field field : TwoShapes.class.getFields()) {
            String row = "| `" + field.getName() + "` | " + value(field) + " | ";
            isSo(field.getName() + " is told with its number", text.contains(row));
        }
    }

    private static int value(Field constant) {
        try {
            return constant.getInt(null);
        } catch (IllegalAccessException e) {
            return 0;
        }
    }

    private static void tests(String text) throws IOException {
        Set<String> told = new TreeSet<>();
        Matcher matcher = Pattern.compile("(?m)^\\| `(\\w+Test)` \\|").matcher(text);
        while (matcher.find()) {
            told.add(matcher.group(1));
        }
        Set<String> found = new TreeSet<>();
        try (Stream<Path> files = Files.list(TESTS)) {
            files.map(file -> file.getFileName().toString()).filter(name -> name.endsWith("Test.java"))
                    .forEach(name -> found.add(name.substring(0, name.length() - ".java".length())));
        }
        isSo("the tests are " + found + ", told are " + told, found.equals(told));
    }
}
