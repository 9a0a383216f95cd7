import java.io.IOException;
import java.lang.reflect.Field;
import java.lang.reflect.Method;
import java.lang.reflect.Modifier;
import java.nio.file.Files;
import java.nio.file.Path;
import java.util.Arrays;

/** What of LANGUAGE.md can be seen in the text of the class; run from the project's folder. */
public final class LanguageTest {
    private static final String[] FORBIDDEN = {"import", "package", "->", "::", "try", "catch", "finally",
        "synchronized", "assert", "static {", "System", "Exact(", "@Override", "hashCode", "equals(", "toString",
        "lambda", "Thread", "volatile", "List", "Map"};
    private static final String[] MAY_THROW = {"IndexOutOfBoundsException", "IllegalArgumentException",
        "IllegalStateException"};

    private static String withoutComments(String text) {
        return text.replaceAll("(?s)/\\*.*?\\*/", "").replaceAll("//[^\n]*", "");
    }

    /** A method starts at its opening brace, four or eight columns in, and ends at the brace in the same column. */
    private static void methodsAreShort(String text) {
        String[] lines = text.split("\n");
        for (int from = 0; from < lines.length; from++) {
            if (!lines[from].matches("( {4}| {8})[^ ].*\\).* \\{") || lines[from].matches(" *(for|if|while) .*")) {
                continue;
            }
            String end = lines[from].substring(0, lines[from].length() - lines[from].stripLeading().length()) + "}";
            int to = from;
            while (to < lines.length && !lines[to].equals(end)) {
                to++;
            }
            Check.due("rule 11: lines of " + lines[from].strip(), to - from < 60 ? 1 : 0, 1);
        }
    }

    private static void countsOf(Class<?> kind) {
        int fields = 0;
        for (Field field : kind.getDeclaredFields()) {
            boolean constant = Modifier.isStatic(field.getModifiers());
            fields += constant ? 0 : 1;
            Check.due("rule 5: a static field is final: " + field, !constant || Modifier.isFinal(field.getModifiers())
                ? 1 : 0, 1);
        }
        Check.due("rule 11: fields of " + kind, fields <= 20 ? 1 : 0, 1);
        for (Method method : kind.getDeclaredMethods()) {
            Check.due("rule 11: parameters of " + method, method.getParameterCount() <= 7 ? 1 : 0, 1);
        }
    }

    public static void main(String[] args) throws IOException {
        String whole = Files.readString(Path.of("src/main/java/Pointsbook.java"));
        String text = withoutComments(whole);
        for (String word : FORBIDDEN) {
            Check.due("the class has " + word, text.contains(word) ? 1 : 0, 0);
        }
        for (int i = 0; i < whole.length(); i++) {
            char sign = whole.charAt(i);
            Check.due("sign " + (int) sign + " at " + i, sign == '\n' || sign >= 32 && sign < 127 ? 1 : 0, 1);
        }
        String[] parts = text.split("throw new ");
        for (int i = 1; i < parts.length; i++) {
            String thrown = parts[i].substring(0, parts[i].indexOf('('));
            Check.due("throw new " + thrown, Arrays.asList(MAY_THROW).contains(thrown) ? 1 : 0, 1);
        }
        methodsAreShort(text);
        Class<?>[] inside = Pointsbook.class.getDeclaredClasses();
        Check.due("rule 11: classes", inside.length < 12 ? 1 : 0, 1);
        countsOf(Pointsbook.class);
        for (Class<?> kind : inside) {
            countsOf(kind);
        }
        Check.end();
    }
}
