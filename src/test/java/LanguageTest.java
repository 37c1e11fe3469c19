import java.nio.file.Files;
import java.nio.file.Path;
import java.util.regex.Matcher;
import java.util.regex.Pattern;

/** Rules of LANGUAGE.md that can be seen in the source's words. */
public final class LanguageTest {
    private static final String[] WORDS = {"throw", "throws", "try", "catch", "finally", "synchronized", "assert",
        "Exception", "Object", "hashCode", "toString", "Random", "System\\.(?!arraycopy)\\w+", "Math\\.\\w*Exact",
        "protected", "volatile", "transient", "native", "strictfp", "package", "var", "->", "::", "\\bfloat\\b",
        "Thread", "Class", "@\\w+", "HashMap", "Scanner", "import (?!java\\.util\\.Arrays;)"};
    private static final Due due = new Due();

    public static void main(String[] args) throws Exception {
        String path = System.getProperty("hatrank.source", "src/main/java/HatRank.java");
        String source = Files.readString(Path.of(path));
        String code = source.replaceAll("(?s)/\\*.*?\\*/", "").replaceAll("//[^\n]*", "");
        for (String word : WORDS) {
            boolean plain = word.matches("\\w+");
            Matcher found = Pattern.compile(plain ? "\\b" + word + "\\b" : word).matcher(code);
            due.holds("no '" + word + "'", !found.find());
        }
        for (int i = 0; i < source.length(); i++) {
            if (source.charAt(i) > 126 || source.charAt(i) < 32 && source.charAt(i) != '\n') {
                due.holds("a plain sign at " + i, false);
            }
        }
        due.holds("no text joined by +", !Pattern.compile("\"\\s*\\+|\\+\\s*\"").matcher(code).find());
        due.holds("no loop without an end", !Pattern.compile("while\\s*\\(true\\)|for\\s*\\(;;").matcher(code).find());
        shortMethods(code);
        due.end();
    }

    /** A method begins with a brace at four or eight blanks and ends at the next closing one there. */
    private static void shortMethods(String code) {
        String[] lines = code.split("\n");
        for (String blanks : new String[] {"    ", "        "}) {
            int begin = -1;
            for (int i = 0; i < lines.length; i++) {
                if (lines[i].matches(blanks + "[^ ].*\\) \\{")) {
                    begin = i;
                }
                if (begin >= 0 && lines[i].equals(blanks + "}")) {
                    due.holds("short: " + lines[begin].trim(), i - begin <= 60);
                    begin = -1;
                }
            }
        }
    }
}
