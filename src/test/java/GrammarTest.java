import java.util.ArrayList;
import java.util.List;
import java.util.Random;

/**
 * The first FAULT along a text, by the grammars as the document writes them and a reader of any grammar: all short texts
 * of some tokens, then random long ones that come to every limit.
 */
public final class GrammarTest {
    private static final String LETTERS = "[a-z]+";
    private static final String DIGITS = "[0-9]+";
    private static final String VALUE_WORDS = "way|minutes|gone|last|to|far|out|there|goer|aim|clock|on";
    private static final String[] LAND_TOKENS = {"way", "goer", ";", "0", "3", "7", "8", "60", "61", "999", "1000",
        "00007", "000007", "take", "x", "-"};
    private static final String[] RULE_TOKENS = {"take", "wait", "if", "and", "or", "not", "[", "]", ";", "+", "*", "<",
        "=", ">=", "way", "99999", "100000", "goers"};
    private static final String[] MORE_RULE_TOKENS = {"take", "take", "wait", "wait", "if", "if", "and", "or", "not", "not",
        "not", "[", "[", "[", "[", "]", ";", ";", "+", "-", "*", "/", "<", "<=", "=", ">=", ">", "minutes", "gone", "last",
        "to", "far", "out", "there", "goer", "aim", "clock", "on", "0", "7", "99999", "100000", "X", "\u00e9", "\0", "!",
        "iff", "("};

    private static final Random RANDOM = new Random(12);

    private static Grammar loose;
    private static Grammar strict;
    private static boolean isLand;

    private static boolean fits(String sign, String token) {
        boolean isNumber = token.matches(DIGITS);
        boolean isShort = isNumber && token.length() <= 5;
        switch (sign) {
            case "NUMBER":
                return isNumber;
            case "SHORT":
                return isShort;
            case "PLACE":
                return isShort && Integer.parseInt(token) <= 7;
            case "MINUTES":
                return isShort && Integer.parseInt(token) >= 1 && Integer.parseInt(token) <= 60;
            case "LEAVES":
                return isShort && Integer.parseInt(token) <= 999;
            case "WORD":
                return token.matches(VALUE_WORDS);
            case "SIGN":
                return token.matches("<|<=|=|>=|>");
            case "ADD":
                return token.matches("[+-]");
            case "MUL":
                return token.matches("[*/]");
            default:
                if (sign.startsWith("IS")) {
                    return isShort && Integer.parseInt(token) == sign.charAt(2) - '0';
                }
                if (sign.startsWith("UNLIKE")) {
                    return isShort && Integer.parseInt(token) <= 7 && Integer.parseInt(token) != sign.charAt(6) - '0';
                }
                return sign.equals(token);
        }
    }

    private static Grammar grammar(List<String> lines) {
        return new Grammar(GrammarTest::fits, lines);
    }

    private static void beLand() {
        isLand = true;
        loose = grammar(List.of("LAND -> CLAUSE | CLAUSE ; LAND",
            "CLAUSE -> way NUMBER NUMBER NUMBER | goer NUMBER NUMBER NUMBER"));
        List<String> lines = new ArrayList<>(List.of("LAND -> CLAUSE | CLAUSE ; LAND", "CLAUSE -> goer PLACE PLACE LEAVES"));
        for (int from = 0; from <= 7; from++) {
            lines.add("CLAUSE -> way IS" + from + " UNLIKE" + from + " MINUTES");
        }
        strict = grammar(lines);
    }

    /** Of the strict one FACTS at each depth have lines of their own, of which the last can't be not or [. */
    private static void beRule() {
        isLand = false;
        loose = grammar(List.of("RULE -> CLAUSE | CLAUSE ; RULE", "CLAUSE -> take SUM | take SUM if TEST | wait TEST",
            "TEST -> PART | PART or TEST", "PART -> FACT | FACT and PART", "FACT -> not FACT | [ TEST ] | SUM SIGN SUM",
            "SUM -> TERM | TERM ADD SUM", "TERM -> VALUE | VALUE MUL TERM", "VALUE -> NUMBER | WORD"));
        List<String> lines = new ArrayList<>(List.of("RULE -> CLAUSE | CLAUSE ; RULE",
            "CLAUSE -> take SUM | take SUM if TEST0 | wait TEST0",
            "SUM -> TERM | TERM ADD SUM", "TERM -> VALUE | VALUE MUL TERM", "VALUE -> NUMBER | WORD"));
        for (int deep = 0; deep <= 10; deep++) {
            lines.add("TEST" + deep + " -> PART" + deep + " | PART" + deep + " or TEST" + deep);
            lines.add("PART" + deep + " -> FACT" + deep + " | FACT" + deep + " and PART" + deep);
            lines.add("FACT" + deep + " -> SUM SIGN SUM");
            if (deep < 10) {
                lines.add("FACT" + deep + " -> not FACT" + (deep + 1) + " | [ TEST" + (deep + 1) + " ]");
            }
        }
        strict = grammar(lines);
    }

    /** Whether two tokens that touch would be read as others. */
    private static boolean needsGap(String a, String b) {
        boolean letters = a.matches(LETTERS) && b.matches(LETTERS);
        boolean digits = a.matches(DIGITS) && b.matches(DIGITS);
        return letters || digits || a.matches("[<>]") && b.startsWith("=");
    }

    /** The text of some tokens; where each of them begins is put into places. */
    private static String text(List<String> tokens, List<Integer> places) {
        StringBuilder b = new StringBuilder();
        String before = "";
        for (String token : tokens) {
            boolean gap = needsGap(before, token) || RANDOM.nextInt(4) == 0;
            b.append(gap ? " ".repeat(1 + RANDOM.nextInt(8) / 7) : "");
            places.add(b.length());
            b.append(token);
            before = token;
        }
        b.append(RANDOM.nextInt(8) == 0 ? "  " : "");
        places.add(b.length());
        return b.toString();
    }

    /** Bytes that would go on with the text were behind its end. */
    private static int told(String text) {
        TurningRoads roads = new TurningRoads();
        String behind = new String[] {"0", "z", "=", " ", ";"}[RANDOM.nextInt(5)];
        Check.tape(roads, text.length() < 400 ? text + behind : text);
        roads.end(text.length());
        return isLand ? roads.land() : roads.rule();
    }

    private static int fitting(List<String> tokens) {
        int ways = 0;
        for (String token : tokens) {
            ways += token.equals("way") ? 1 : 0;
        }
        return isLand ? ways : 0;
    }

    /** Holds against kind and the token at which it is; kind NONE: the text fits. */
    private static void held(List<String> tokens, int at, int kind) {
        List<Integer> places = new ArrayList<>();
        String text = text(tokens, places);
        if (text.length() <= 400) {
            int due = kind < 0 ? fitting(tokens) : Check.fault(places.get(at), kind);
            Check.due((isLand ? "land '" : "rule '") + text + "'", told(text), due);
        }
    }

    /** What follows a FAULT doesn't change it. */
    private static void heldWhateverFollows(List<String> tokens, String[] alphabet, int kind) {
        int at = tokens.size() - 1;
        held(tokens, at, kind);
        List<String> longer = new ArrayList<>(tokens);
        for (int i = 0; i < 3; i++) {
            longer.add(alphabet[RANDOM.nextInt(alphabet.length)]);
        }
        held(longer, at, kind);
    }

    /** All texts that begin with these tokens, so many more of them at most. */
    private static void allShort(List<String> tokens, String[] alphabet, int more) {
        boolean whole = loose.isWhole();
        held(tokens, tokens.size(), whole ? -1 : 0);
        if (more == 0) {
            return;
        }
        for (String token : alphabet) {
            tokens.add(token);
            if (!loose.read(token)) {
                heldWhateverFollows(tokens, alphabet, 0);
            } else {
                if (token.matches(DIGITS) && token.length() > 5 || !strict.read(token)) {
                    heldWhateverFollows(tokens, alphabet, 1);
                } else {
                    allShort(tokens, alphabet, more - 1);
                    strict.unread();
                }
                loose.unread();
            }
            tokens.remove(tokens.size() - 1);
        }
    }

    /** The least kind of FAULT that a token, which can stand there, is; NONE: it is none. */
    private static int kindOf(String token, int[] counts) {
        boolean counted = !isLand && (fits("NUMBER", token) || fits("WORD", token) || fits("SIGN", token));
        counts[0] += counted ? 1 : 0;
        counts[1] += token.matches("take|wait") ? 1 : 0;
        counts[2] += isLand && token.equals("way") ? 1 : 0;
        counts[3] += isLand && token.equals("goer") ? 1 : 0;
        if (fits("NUMBER", token) && token.length() > 5) {
            return 1;
        }
        if (!strict.read(token)) {
            return isLand ? 1 : 2;
        }
        if (counts[0] > 60) {
            return 3;
        }
        return counts[1] > 12 || counts[2] > 14 || counts[3] > 6 ? 4 : TurningRoads.NONE;
    }

    private static String anyOf(String[] alphabet) {
        String token = alphabet[RANDOM.nextInt(alphabet.length)];
        boolean again = token.equals("100000") && RANDOM.nextInt(8) != 0;
        return again ? "99999" : token;
    }

    /** One random text, in which most tokens are such as can stand there. */
    private static int oneLong(int mostTokens, String[] alphabet) {
        loose.clear();
        strict.clear();
        int[] counts = new int[4];
        List<String> tokens = new ArrayList<>();
        for (int n = 0; n < mostTokens; n++) {
            String token = anyOf(alphabet);
            boolean stands = loose.read(token);
            for (int tries = 0; !stands && tries < 300 && RANDOM.nextInt(200) != 0; tries++) {
                token = anyOf(alphabet);
                stands = loose.read(token);
            }
            tokens.add(token);
            int kind = stands ? kindOf(token, counts) : 0;
            if (kind >= 0) {
                heldWhateverFollows(tokens, alphabet, kind);
                return kind;
            }
        }
        boolean whole = loose.isWhole();
        held(tokens, tokens.size(), whole ? -1 : 0);
        return whole ? 5 : 6;
    }

    /** Random texts of each alphabet in turn; each of these ends must have come about. */
    private static void someLong(int runs, String what, String[][] alphabets, int[] ends) {
        int[] seen = new int[7];
        for (int run = 0; run < runs; run++) {
            seen[oneLong(1 + RANDOM.nextInt(160), alphabets[run % alphabets.length])]++;
        }
        for (int end : ends) {
            Check.due(what + "s that end in " + end + " come about", seen[end] > 10 ? 1 : 0, 1);
        }
    }

    public static void main(String[] args) {
        int runs = args.length > 0 ? Integer.parseInt(args[0]) : 3000;
        beLand();
        allShort(new ArrayList<>(), LAND_TOKENS, 6);
        someLong(runs, "land", new String[][] {LAND_TOKENS, {"way", "0", "1", ";"}, {"goer", "2", "3", ";"},
            {"way", "way", "way", "goer", "5", "4", "6", ";"}}, new int[] {0, 1, 4, 5, 6});
        beRule();
        allShort(new ArrayList<>(), RULE_TOKENS, 7);
        String[] deep = {"take", "wait", "not", "[", "[", "not", "]", "1", "=", "and", "or"};
        String[] many = {"take", "wait", "1", "1", "to", "+", "*", "=", "and", "or", "if", ";", "not", "[", "]"};
        String[] clauses = {"take", "wait", "1", "to", "=", ";", ";", ";", ";"};
        someLong(runs, "rule", new String[][] {MORE_RULE_TOKENS, deep, many, clauses}, new int[] {0, 1, 2, 3, 4, 5, 6});
        Check.finish();
    }
}
