import java.io.IOException;
import java.nio.file.Files;
import java.nio.file.Path;
import java.util.List;
import java.util.regex.Matcher;
import java.util.regex.Pattern;

/** What ../shared/LANGUAGE.md says of the program and can be seen from its text. */
public final class LanguageTest {
    private static final Path PROGRAM = Path.of("src/main/java/LoopCaptures.java");
    private static final List<String> NOT_ALLOWED = List.of(
        "throw", "throws", "try", "catch", "finally", "synchronized", "assert", "import", "package",
        "protected", "volatile", "transient", "native", "default ->", "->", "::", "Exact",
        "equals", "hashCode", "toString", "System", "Object", "Thread", "Random", "@");
    private static final int MOST_LINES = 60;
    private static final int MOST_CLASSES = 12;
    private static final int MOST_PARAMETERS = 7;

    private LanguageTest() {
    }

    public static void main(String[] args) throws IOException {
        String program = Files.readString(PROGRAM);
        String code = withoutCommentsAndSigns(program);
        for (String word : NOT_ALLOWED) {
            Check.due("'" + word + "' in the program", found(code, wordOf(word)), 0);
        }
        Check.due("signs beyond 126", program.chars().filter(c -> c > 126).count(), 0);
        Check.due("texts in the program", found(code, "\""), 0);
        Check.due("classes are few", found(code, "\\bclass\\b") <= MOST_CLASSES ? 1 : 0, 1);
        Check.due("classes inside that are not private and static",
            found(code, "\\bclass\\b") - found(code, "private static final class "), 1);
        Check.due("static fields that are not final", found(code, "static (int|long|boolean|char)(\\[\\])? \\w+( =|;)"), 0);
        Check.due("long methods", longMethods(code), 0);
        Check.due("methods with many parameters",
            found(code, "\\(([\\w\\[\\]]+ \\w+, ){" + MOST_PARAMETERS + ",}[\\w\\[\\]]+ \\w+\\) \\{"), 0);
        Check.due("public members", found(code, "\\n    public "), 7 + 22);
        Check.finish("LanguageTest");
    }

    private static String wordOf(String word) {
        return Character.isLetter(word.charAt(0)) ? "\\b" + word + "\\b" : Pattern.quote(word);
    }

    private static String withoutCommentsAndSigns(String program) {
        return program.replaceAll("(?s)/\\*.*?\\*/", "").replaceAll("//[^\\n]*", "").replaceAll("'.'", "0");
    }

    private static int found(String code, String pattern) {
        Matcher matcher = Pattern.compile(pattern).matcher(code);
        int times = 0;
        while (matcher.find()) {
            times++;
        }
        return times;
    }

    /** Methods of the public class are indented by four spaces, those of a class inside by eight. */
    private static int longMethods(String code) {
        int many = 0;
        int start = 0;
        String[] lines = code.split("\n");
        for (int i = 0; i < lines.length; i++) {
            if (lines[i].matches(" {4}( {4})?[^ ].*\\) \\{")) {
                start = i;
            }
            if (lines[i].matches(" {4}( {4})?\\}") && start > 0) {
                many += i - start > MOST_LINES ? 1 : 0;
                start = 0;
            }
        }
        return many;
    }
}
