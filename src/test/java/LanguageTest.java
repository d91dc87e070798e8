import java.io.IOException;
import java.lang.reflect.Field;
import java.lang.reflect.Method;
import java.lang.reflect.Modifier;
import java.nio.charset.StandardCharsets;
import java.nio.file.Files;
import java.nio.file.Path;
import java.util.ArrayList;
import java.util.List;
import java.util.Set;
import java.util.TreeSet;
import java.util.regex.Pattern;

/** What can be seen of ../shared/LANGUAGE.md without reading for sense; .ci/run runs it in the project's folder. */
final class LanguageTest {
    private static final Path SOURCE = Path.of("src/main/java/TwoShapes.java");
    private static final int METHOD_LINES = 60;

    public static void main(String[] args) throws IOException {
        String text = Files.readString(SOURCE, StandardCharsets.UTF_8);
        signs(text);
        String code = withoutComments(text);
        wordsThatAreOut(code);
        methodLengths(code);
        List<Class<?>> classes = new ArrayList<>(List.of(TwoShapes.class.getDeclaredClasses()));
        Due.due("at most twelve classes", 1, classes.size() < 12 ? 1 : 0);
        for (Class<?> inside : classes) {
            classInside(inside);
        }
        privateNames();
        classes.add(TwoShapes.class);
        for (Class<?> any : classes) {
            fields(any);
            parameters(any);
        }
        Due.end();
    }

    private static void isSo(String what, boolean so) {
        Due.due(what, 1, so ? 1 : 0);
    }

    private static void signs(String text) {
        isSo("signs 1 to 127 alone", text.chars().allMatch(sign -> sign >= 1 && sign <= 127));
    }

    private static String withoutComments(String text) {
        return text.replaceAll("(?s)/\\*.*?\\*/", "").replaceAll("//[^\n]*", "").replaceAll("'[^']+'", "' '");
    }

    /** Rules 1, 2, 5, 6 and 13. */
    private static void wordsThatAreOut(String code) {
        for (String word : new String[] {"import", "package", "throw", "throws", "try", "catch", "finally", "synchronized",
            "assert", "yield", "native", "volatile", "transient", "protected", "hashCode", "Thread", "System.out"}) {
            isSo("no " + word, !Pattern.compile("\\b" + word + "\\b").matcher(code).find());
        }
        for (String part : new String[] {"->", "::", "@", "static {", "\""}) {
            isSo("no " + part, !code.contains(part));
        }
    }

    /** Rule 11. */
    private static void methodLengths(String code) {
        int begun = 0;
        String[] lines = code.split("\n");
        for (int i = 0; i < lines.length; i++) {
            if (lines[i].matches("\\s+.*\\(.*\\) \\{") && !lines[i].matches("\\s+(?:if|for|while|switch|\\}).*")) {
                begun = i;
            }
            isSo("line " + (i + 1) + " is in a short method", i - begun < METHOD_LINES);
        }
    }

    /** Rules 1 and 2. */
    private static void classInside(Class<?> inside) {
        isSo(inside + " is static", Modifier.isStatic(inside.getModifiers()));
        int open = inside.getModifiers() & (Modifier.PUBLIC | Modifier.PROTECTED);
        isSo(inside + " is private or package-visible", open == 0);
    }

    /** Rule 1: "No private method bears the name of a public one." */
    private static void privateNames() {
        Set<String> face = new TreeSet<>();
        for (Method method : TwoShapes.class.getMethods()) {
            face.add(method.getName());
        }
        for (Method method : TwoShapes.class.getDeclaredMethods()) {
            boolean isPrivate = Modifier.isPrivate(method.getModifiers());
            isSo(method + " has a name of its own", !isPrivate || !face.contains(method.getName()));
        }
    }

    /** Rules 5 and 11. */
    private static void fields(Class<?> any) {
        int own = 0;
        for (Field field : any.getDeclaredFields()) {
            if (Modifier.isStatic(field.getModifiers())) {
                isSo(field + " is a constant", Modifier.isFinal(field.getModifiers()) && field.getType() == int.class);
            } else {
                own++;
            }
        }
        isSo("at most twenty fields in " + any, own <= 20);
    }

    /** Rule 11. */
    private static void parameters(Class<?> any) {
        for (Method method : any.getDeclaredMethods()) {
            isSo(method + " takes at most seven", method.getParameterCount() <= 7);
        }
    }
}
