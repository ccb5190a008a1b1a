import java.io.IOException;
import java.nio.file.Files;
import java.nio.file.Path;
import java.util.Arrays;

/** Which words of the document a test is of: none that stand in the Terms or in a promise may go without one. */
final class Says {
    private static final int SECTIONS = 34;
    /** Whether the document is there: without it the tests stand, but what they quote is not looked at. */
    private static boolean isRead = false;
    private static String[] texts = null;
    private static boolean[][] quoted = null;
    private static int checkedBefore = 0;

    private Says() {
    }

    /** What is checked from here on is of these words of the Terms. */
    static void terms(String words) {
        promise(0, words);
    }

    /** What is checked from here on is of these words of a promise. */
    static void promise(int number, String words) {
        read();
        closeFormer();
        Check.words = words;
        int at = texts[number].indexOf(words);
        if (isRead) {
            Check.due("the document says so (promise " + number + ")", at >= 0 ? 1 : 0, 1);
        }
        checkedBefore = Check.checked();
        if (at >= 0) {
            Arrays.fill(quoted[number], at, at + words.length(), true);
        }
    }

    /** Prints the words that no test is of. */
    static void finish() {
        closeFormer();
        for (int section = 0; section < SECTIONS; section++) {
            Check.words = section == 0 ? "Terms" : "Promise " + section;
            int begin = 0;
            for (int i = 0; i <= texts[section].length(); i++) {
                if (i == texts[section].length() || ";:.,()|".indexOf(texts[section].charAt(i)) >= 0) {
                    checkPiece(section, begin, i);
                    begin = i + 1;
                }
            }
        }
    }

    private static void closeFormer() {
        if (Check.words != null) {
            Check.due("something is checked", Check.checked() > checkedBefore ? 1 : 0, 1);
        }
    }

    private static void checkPiece(int section, int begin, int end) {
        boolean needs = false;
        boolean has = false;
        for (int i = begin; i < end; i++) {
            needs |= Character.isLetterOrDigit(texts[section].charAt(i));
            has |= quoted[section][i];
        }
        if (needs) {
            Check.due("tests of '" + texts[section].substring(begin, end).trim() + "'", has ? 1 : 0, 1);
        }
    }

    private static void read() {
        if (texts != null) {
            return;
        }
        String all = "";
        try {
            all = Files.readString(Path.of(System.getProperty("shared", "../shared"), "DOC.md"));
            isRead = true;
        } catch (IOException e) {
            System.out.println("the document can't be read: " + e);
        }
        texts = new String[SECTIONS];
        quoted = new boolean[SECTIONS][];
        for (int section = 0; section < SECTIONS; section++) {
            String head = section == 0 ? "## Terms" : "## Promise " + section + ":";
            int from = all.indexOf(head);
            int body = from < 0 ? -1 : section == 0 ? from + head.length() : all.indexOf("`: ", from) + 3;
            int to = from < 0 ? -1 : all.indexOf("\n## ", body);
            String text = from < 0 ? "" : all.substring(body, to);
            texts[section] = text.replace("```text", " ").replace("```", " ").replaceAll("\\s+", " ").trim();
            quoted[section] = new boolean[texts[section].length()];
        }
    }
}
