import java.io.IOException;
import java.nio.file.Files;
import java.nio.file.Path;
import java.util.regex.Matcher;
import java.util.regex.Pattern;

/** Finds in the class's text what LANGUAGE.md rules out, as far as a search can. Runs at the project's root. */
public final class LanguageTest {
    private static final String[] FORBIDDEN = {"->", "::", "\\bimport\\b", "\\bpackage\\b", "\\btry\\b", "\\bcatch\\b",
        "\\bfinally\\b", "\\bsynchronized\\b", "\\bassert\\b", "\\bstatic\\s*\\{", "\\bgetMessage\\b", "\\w+Exact\\(",
        "\\bequals\\(", "\\bhashCode\\b", "\\btoString\\b", "\\bThread\\b", "\\bRandom\\b", "\\bnanoTime\\b",
        "\\bcurrentTimeMillis\\b", "\\bprotected\\b", "\"\\s*\\+", "\\+\\s*\"", "\\bObject\\b", "\\bstream\\b"};

    private static final Due due = new Due();

    public static void main(String[] args) throws IOException {
        String text = Files.readString(Path.of("src/main/java/ProofSheet.java"));
        for (String one : FORBIDDEN) {
            Matcher found = Pattern.compile(one).matcher(text);
            if (found.find()) {
                due.tell("found " + found.group());
            }
        }
        thrownClasses(text);
        shortMethods(text);
        due.end();
    }

    private static void thrownClasses(String text) {
        Matcher thrown = Pattern.compile("\\bthrow\\b(?! new (IndexOutOfBounds|IllegalArgument|IllegalState)"
                + "Exception\\(\"[^\"]*\"\\);)").matcher(text);
        if (thrown.find()) {
            due.tell("a throw that is not of the document, at " + thrown.start());
        }
    }

    private static void shortMethods(String text) {
        String[] lines = text.split("\n");
        for (int line = 0; line < lines.length; line++) {
            String indent = lines[line].replaceAll("\\S.*", "");
            boolean opens = lines[line].endsWith(") {") && (indent.length() == 4 || indent.length() == 8)
                    && !lines[line].matches("\\s*(if|for|while|switch|\\}).*");
            int end = line;
            while (opens && end < lines.length && !lines[end].equals(indent + "}")) {
                end++;
            }
            if (end - line > 60) {
                due.tell("a method of " + (end - line) + " lines: " + lines[line]);
            }
        }
    }
}
