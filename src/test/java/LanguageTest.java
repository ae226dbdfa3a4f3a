import java.io.IOException;
import java.nio.file.Files;
import java.nio.file.Path;
import java.util.regex.Matcher;
import java.util.regex.Pattern;

/** The program's text has none of the words that the language leaves out. Run from the project's folder. */
public final class LanguageTest {
    private static final Path PROGRAM = Path.of("src/main/java/BasketHouse.java");
    private static final String[] LEFT_OUT = {
        "\\bpackage\\b", "\\bimport\\b", "\\bthrows?\\b", "\\btry\\b", "\\bcatch\\b", "\\bsynchronized\\b",
        "\\bassert\\b", "->", "::", "\\bprotected\\b", "\\w+Exact\\b", "\\bSystem\\.(?!arraycopy\\b)",
        "\\bjava\\.", "while \\(true\\)", "for \\(;;\\)", "[^\\x00-\\xff]"};

    public static void main(String[] args) throws IOException {
        Check check = new Check("LanguageTest");
        String code = withoutComments(Files.readString(PROGRAM));
        for (String word : LEFT_OUT) {
            Matcher found = Pattern.compile(word).matcher(code);
            check.due("the program's use of " + word, found.find(), false);
        }
        check.finish();
    }

    private static String withoutComments(String text) {
        return text.replaceAll("(?s)/\\*.*?\\*/", "").replaceAll("//[^\n]*", "");
    }
}
