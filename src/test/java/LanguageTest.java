import java.io.IOException;
import java.nio.file.Files;
import java.nio.file.Path;
import java.util.regex.Matcher;
import java.util.regex.Pattern;

/** The rules of LANGUAGE.md that can be read from the source word by word. */
public final class LanguageTest {
    private static final String[] FORBIDDEN = {
        "throw", "throws", "try", "catch", "finally", "synchronized", "assert", "import", "package", "protected",
        "volatile", "transient", "native", "->", "::", "@", "hashCode", "toString", "System\\.(?!arraycopy)",
        "Exact", "Object", "var"};
    private static final Check check = new Check("LanguageTest");

    public static void main(String[] args) throws IOException {
        String source = Files.readString(Path.of("src/main/java/RoadPaint.java"));
        for (int i = 0; i < source.length(); i++) {
            char c = source.charAt(i);
            check.isTrue("character " + i + " is plain", c == '\n' || c >= 32 && c < 127);
        }
        String code = source.replaceAll("(?s)/\\*.*?\\*/", "").replaceAll("//[^\n]*", "")
                .replaceAll("\"[^\"\n]*\"", "\"\"");
        for (String word : FORBIDDEN) {
            boolean isWord = Character.isLetter(word.charAt(0)) && word.indexOf('\\') < 0;
            Matcher matcher = Pattern.compile(isWord ? "\\b" + word + "\\b" : word).matcher(code);
            check.isTrue("no " + word, !matcher.find());
        }
        shortMethods(source);
        check.end();
    }

    /** A method of the class or of a class inside it ends with a brace at its own depth. */
    private static void shortMethods(String source) {
        int begin = 0;
        String[] lines = source.split("\n");
        for (int i = 0; i < lines.length; i++) {
            if (lines[i].matches("( {4}| {8})[a-zA-Z].*\\) \\{") && !lines[i].matches(".* (if|for|while|switch) .*")) {
                begin = i;
            }
            if (lines[i].matches("( {4}| {8})\\}") && begin > 0) {
                check.isTrue("the method of line " + (begin + 1) + " is short", i - begin < 60);
                begin = 0;
            }
        }
    }
}
