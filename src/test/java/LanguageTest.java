import java.io.IOException;
import java.nio.file.Files;
import java.nio.file.Path;
import java.util.Arrays;

/** What of LANGUAGE.md can be seen in the text of the class; run from the project's folder. */
public final class LanguageTest {
    private static final String[] FORBIDDEN = {"import", "package", "->", "::", "try", "catch", "finally",
        "synchronized", "assert", "static {", "System", "Exact(", "@Override", "hashCode", "equals(", "toString",
        "lambda", "Thread", "volatile", "List", "Map"};
    private static final String[] MAY_THROW = {"IndexOutOfBoundsException", "IllegalArgumentException",
        "IllegalStateException"};

    private static String withoutComments(String text) {
        return text.replaceAll("(?s)/\\*.*?\\*/", "").replaceAll("//[^\n]*", "");
    }

    public static void main(String[] args) throws IOException {
        String whole = Files.readString(Path.of("src/main/java/Pointsbook.java"));
        String text = withoutComments(whole);
        for (String word : FORBIDDEN) {
            Check.due("the class has " + word, text.contains(word) ? 1 : 0, 0);
        }
        for (int i = 0; i < whole.length(); i++) {
            char sign = whole.charAt(i);
            Check.due("sign " + (int) sign + " at " + i, sign == '\n' || sign >= 32 && sign < 127 ? 1 : 0, 1);
        }
        String[] parts = text.split("throw new ");
        for (int i = 1; i < parts.length; i++) {
            String thrown = parts[i].substring(0, parts[i].indexOf('('));
            Check.due("throw new " + thrown, Arrays.asList(MAY_THROW).contains(thrown) ? 1 : 0, 1);
        }
        Check.end();
    }
}
