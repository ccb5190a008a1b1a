import java.nio.charset.StandardCharsets;
import java.nio.file.Files;
import java.nio.file.Path;
import java.util.Arrays;
import java.util.HashSet;
import java.util.List;
import java.util.Set;
import java.util.regex.Matcher;
import java.util.regex.Pattern;

/** What of LANGUAGE.md can be seen in the text of the program. Run from the project's directory. */
public final class LanguageTest {
    private static final Path MAIN = Path.of("src/main/java/TurningRoads.java");
    private static final String[] NEVER = {"throw", "throws", "try", "catch", "finally", "synchronized", "assert",
        "volatile", "native", "strictfp", "package", "protected", "goto", "Object", "Exception", "Thread", "Random",
        "System.out", "nanoTime", "currentTimeMillis", "hashCode", "toString", "instanceof", "Collections", "Map", "Set",
        "double", "float", "Deque", "Scanner", "format", "valueOf", "parseInt", "stream"};
    private static final Set<String> LIBRARY = new HashSet<>(Arrays.asList("Integer.bitCount", "Math.min", "Math.max",
        "Math.abs", "System.arraycopy", "Arrays.copyOf", "Arrays.fill", "Arrays.copyOfRange", "WORDS.charAt"));

    private static String withoutTextsAndComments(String source) {
        return source.replaceAll("(?s)/\\*.*?\\*/", " ").replaceAll("//[^\n]*", " ")
            .replaceAll("'(\\\\.|[^'\\\\])'", "' '").replaceAll("\"(\\\\.|[^\"\\\\])*\"", "\"\"");
    }

    private static int count(String text, String regex) {
        Matcher m = Pattern.compile(regex).matcher(text);
        int n = 0;
        while (m.find()) {
            n++;
        }
        return n;
    }

    private static void methodLengths(List<String> lines) {
        int begin = -1;
        String indent = "";
        for (int i = 0; i < lines.size(); i++) {
            String line = lines.get(i);
            if (begin < 0 && line.matches("( {4}| {8})[a-zA-Z].*\\) \\{")) {
                begin = i;
                indent = line.substring(0, line.length() - line.stripLeading().length());
            } else if (begin >= 0 && line.equals(indent + "}")) {
                Check.due("lines of the method at line " + (begin + 1), i - begin + 1 <= 60 ? 1 : 0, 1);
                begin = -1;
            }
        }
    }

    public static void main(String[] args) throws Exception {
        String source = Files.readString(MAIN, StandardCharsets.US_ASCII);
        String code = withoutTextsAndComments(source);
        for (String word : NEVER) {
            Check.due("'" + word + "' in the program", count(code, "\\b" + Pattern.quote(word) + "\\b"), 0);
        }
        Check.due("lambdas", count(code, "->|::"), 0);
        Check.due("annotations", count(code, "@"), 0);
        Check.due("texts joined by +", count(code, "\"\\s*\\+|\\+\\s*\""), 0);
        Check.due("inits of static state", count(code, "static\\s*\\{"), 0);
        Check.due("public classes", count(code, "public final class"), 1);
        Check.due("imports", count(code, "\\bimport\\b"), 1);
        Check.due("the import", count(code, "import java\\.util\\.Arrays;"), 1);
        Check.due("static fields that aren't final", count(code, "static (?!final|int|boolean|long|Tape)\\w+ \\w+ ="), 0);
        Check.due("endless loops", count(code, "while \\(true\\)|for \\(;;"), 0);
        Matcher library = Pattern.compile("\\b([A-Z]\\w+\\.[a-z]\\w*)\\(").matcher(code);
        while (library.find()) {
            String call = library.group(1);
            boolean own = call.startsWith("LandReader.") || call.startsWith("Roads.");
            Check.due("library call " + call, own || LIBRARY.contains(call) ? 1 : 0, 1);
        }
        methodLengths(source.lines().toList());
        Check.finish();
    }
}
