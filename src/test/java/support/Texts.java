import java.util.Random;

/** Random LANDS and RULES, some of them with faults. */
final class Texts {
    private static final String[] VALUE_WORDS = {"way", "minutes", "gone", "last", "to", "far", "out", "there",
        "goer", "aim", "clock", "on"};
    private static final String[] SIGNS = {"<", "<=", "=", ">=", ">"};
    private static final String[] SCRAPS = {" ", ";", "[", "]", "not ", "way", "goer", "take", "wait", " if ", " and ",
        " or ", "0", "7", "8", "99999", "123456", "<", "=", ">", "+", "-", "*", "/", "x", "A", "\0", "\u00e9"};

    private final Random random;

    Texts(Random random) {
        this.random = random;
    }

    private String gap() {
        return random.nextInt(12) == 0 ? "  " : " ";
    }

    private String lessGap() {
        return random.nextInt(3) == 0 ? " " : "";
    }

    /** places: how many different ones the ways use, so that short rounds come about. */
    String land(int ways, int goers, int places, int mostMinutes) {
        StringBuilder b = new StringBuilder();
        int waysLeft = ways;
        int goersLeft = goers;
        while (waysLeft + goersLeft > 0) {
            if (b.length() > 0) {
                b.append(lessGap()).append(";").append(lessGap());
            }
            if (random.nextInt(waysLeft + goersLeft) < waysLeft) {
                int from = random.nextInt(places);
                int to = (from + 1 + random.nextInt(places - 1)) % places;
                b.append("way").append(lessGap()).append(from).append(gap()).append(to).append(gap())
                    .append(1 + random.nextInt(mostMinutes));
                waysLeft--;
            } else {
                b.append("goer").append(lessGap()).append(random.nextInt(places)).append(gap())
                    .append(random.nextInt(places)).append(gap())
                    .append(random.nextInt(4) == 0 ? random.nextInt(1000) : random.nextInt(10));
                goersLeft--;
            }
        }
        return b.toString();
    }

    String rule(int clauses) {
        StringBuilder b = new StringBuilder();
        for (int i = 0; i < clauses; i++) {
            if (i > 0) {
                b.append(lessGap()).append(";").append(lessGap());
            }
            if (random.nextInt(4) == 0) {
                b.append("wait ").append(test(2));
            } else {
                b.append("take ").append(sum(3));
                if (random.nextInt(2) == 0) {
                    b.append(" if ").append(test(2));
                }
            }
        }
        return b.toString();
    }

    private String test(int deep) {
        StringBuilder b = new StringBuilder(fact(deep));
        while (random.nextInt(3) == 0) {
            b.append(random.nextBoolean() ? " and " : " or ").append(fact(deep));
        }
        return b.toString();
    }

    private String fact(int deep) {
        int kind = deep > 0 ? random.nextInt(6) : 5;
        if (kind == 0) {
            return "not " + fact(deep - 1);
        }
        if (kind == 1) {
            return "[" + lessGap() + test(deep - 1) + lessGap() + "]";
        }
        return sum(2) + lessGap() + SIGNS[random.nextInt(5)] + lessGap() + sum(2);
    }

    private String sum(int most) {
        StringBuilder b = new StringBuilder(value());
        for (int i = random.nextInt(most); i > 0; i--) {
            b.append(lessGap()).append("+-*/".charAt(random.nextInt(4))).append(lessGap()).append(value());
        }
        return b.toString();
    }

    private String value() {
        if (random.nextInt(3) == 0) {
            return String.valueOf(random.nextInt(8) == 0 ? random.nextInt(100000) : random.nextInt(12));
        }
        return VALUE_WORDS[random.nextInt(VALUE_WORDS.length)];
    }

    /** A text with a scrap put in, taken out or changed. */
    String spoiled(String text) {
        StringBuilder b = new StringBuilder(text);
        for (int i = random.nextInt(3); i >= 0; i--) {
            int at = random.nextInt(b.length() + 1);
            switch (random.nextInt(3)) {
                case 0:
                    b.insert(at, SCRAPS[random.nextInt(SCRAPS.length)]);
                    break;
                case 1:
                    b.delete(at, Math.min(b.length(), at + 1 + random.nextInt(4)));
                    break;
                default:
                    b.setLength(at);
            }
        }
        return b.toString();
    }

    String cut(String text) {
        return text.length() > 400 ? text.substring(0, 400) : text;
    }
}
