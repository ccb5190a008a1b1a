import java.util.Random;

/** Few PLACES, many GOERS and long WAYS, so that many meet: days by the minute held against the plain model. */
public final class MinutesOracleTest {
    private static TurningRoads roads;
    private static PlainRoads plain;
    private static String log;
    private static int meetings = 0;

    private static void same(String call, int got, int want) {
        Check.due(log + " " + call, got, want);
    }

    private static int tell(String text, boolean isLand) {
        Check.tape(roads, text);
        plain.end(0);
        for (int at = 0; at < text.length(); at += 20) {
            int[] four = new int[5];
            for (int i = 0; i < 20; i++) {
                four[i / 4] = four[i / 4] << 8 | (at + i < text.length() ? text.charAt(at + i) : 0);
            }
            plain.feed(four[0], four[1], four[2], four[3], four[4]);
        }
        plain.end(text.length());
        log += (isLand ? "land " : " rule ") + text;
        int want = isLand ? plain.land() : plain.rule();
        same("told", isLand ? roads.land() : roads.rule(), want);
        return want;
    }

    private static void looked() {
        for (int what = 0; what <= 9; what++) {
            same("count " + what, roads.count(what), plain.count(what));
        }
        for (int n = 0; n < 8; n++) {
            for (int what = 0; what < 7; what++) {
                same("way " + n + " " + what, roads.way(n, what), plain.way(n, what));
                same("goer " + n + " " + what, roads.goer(n, what), plain.goer(n, what));
            }
        }
    }

    private static void run(int seed) {
        Random random = new Random(seed);
        Texts texts = new Texts(random);
        roads = new TurningRoads();
        plain = new PlainRoads();
        log = "run " + seed + " ";
        String land = texts.land(2 + random.nextInt(5), 3 + random.nextInt(4), 2 + random.nextInt(3), 1 + random.nextInt(12));
        tell(texts.cut(land), true);
        int rules = 0;
        for (int i = 0; i < 4 && rules < 2; i++) {
            String rule = i == 3 ? "take 0 - far * 10 - on" : texts.rule(1 + random.nextInt(4));
            rules += tell(texts.cut(rule), false) >= 0 ? 1 : 0;
        }
        same("seed", roads.seed(seed), plain.seed(seed));
        for (int i = 0; i < 12; i++) {
            int rule = random.nextInt(Math.max(1, rules));
            int n = 1 + random.nextInt(random.nextInt(4) == 0 ? 60 : 5);
            for (int what = 0; what < 4; what++) {
                same("ahead " + rule + " " + n + " " + what, roads.ahead(rule, n, what), plain.ahead(rule, n, what));
            }
            same("finest " + n, roads.finest(n), plain.finest(n));
            same("home " + rule, roads.home(rule, 30), plain.home(rule, 30));
            int what = random.nextInt(3);
            int m = 1 + random.nextInt(4);
            same("days " + rule + " " + m + " " + what, roads.days(rule, m, 90, what), plain.days(rule, m, 90, what));
            same("tick " + rule + " " + n, roads.tick(rule, n), plain.tick(rule, n));
            looked();
            meetings += plain.count(6) > 0 ? 1 : 0;
        }
    }

    public static void main(String[] args) {
        int runs = args.length > 0 ? Integer.parseInt(args[0]) : 600;
        for (int seed = 1; seed <= runs && Check.isClean(); seed++) {
            run(seed);
        }
        Check.due("many have met: " + meetings, meetings > runs / 4 ? 1 : 0, 1);
        Check.finish();
    }
}
