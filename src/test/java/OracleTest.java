import java.util.Random;

/** Long random runs of calls, each answer held against the plain model's. */
public final class OracleTest {
    private static Random random;
    private static TurningRoads roads;
    private static PlainRoads plain;
    private static String log;

    private static void same(String call, int got, int want) {
        Check.due(log + " " + call, got, want);
    }

    private static int some(int least, int most) {
        int kind = random.nextInt(24);
        if (kind == 0) {
            return random.nextInt();
        }
        if (kind == 1) {
            return least - 1;
        }
        if (kind == 2) {
            return most + 1;
        }
        return least + random.nextInt(most - least + 1);
    }

    private static void tell(String text) {
        roads.end(0);
        plain.end(0);
        for (int at = 0; at < text.length(); at += 20) {
            int[] four = new int[5];
            for (int i = 0; i < 20; i++) {
                int sign = at + i < text.length() ? text.charAt(at + i) & 255 : random.nextInt(256);
                four[i / 4] = four[i / 4] << 8 | sign;
            }
            same("feed", roads.feed(four[0], four[1], four[2], four[3], four[4]),
                plain.feed(four[0], four[1], four[2], four[3], four[4]));
        }
        same("end", roads.end(text.length()), plain.end(text.length()));
    }

    private static void told(Texts texts, int mostWays) {
        int ways = random.nextInt(mostWays + 1);
        int goers = random.nextInt(7);
        String land = ways + goers == 0 ? "" : texts.land(ways, goers, 2 + random.nextInt(random.nextBoolean() ? 3 : 7),
            random.nextInt(3) == 0 ? 60 : 4);
        if (random.nextInt(6) == 0) {
            land = texts.spoiled(land);
        }
        land = texts.cut(land);
        tell(land);
        log = "land '" + land + "'";
        same("land", roads.land(), plain.land());
    }

    private static void ruled(Texts texts) {
        String rule = texts.rule(1 + random.nextInt(random.nextInt(4) == 0 ? 14 : 3));
        if (random.nextInt(5) == 0) {
            rule = texts.spoiled(rule);
        }
        rule = texts.cut(rule);
        tell(rule);
        same("rule '" + rule + "'", roads.rule(), plain.rule());
    }

    private static void looked() {
        for (int what = -1; what <= 10; what++) {
            same("count " + what, roads.count(what), plain.count(what));
        }
        for (int n = -1; n <= 14; n++) {
            for (int what = -1; what <= 7; what++) {
                same("way " + n + " " + what, roads.way(n, what), plain.way(n, what));
                same("goer " + n + " " + what, roads.goer(n, what), plain.goer(n, what));
                same("place " + n + " " + what, roads.place(n, what), plain.place(n, what));
            }
        }
    }

    private static void call() {
        int goers = plain.count(1);
        int ways = plain.count(0);
        int rules = plain.count(2);
        int all = (1 << ways) - 1;
        int a = some(0, Math.max(goers - 1, 0));
        int w = some(0, Math.max(ways - 1, 0));
        int set = some(1, Math.max(1, (1 << goers) - 1));
        int r = some(0, Math.max(rules - 1, 0));
        int n = some(0, random.nextInt(5) == 0 ? 600 : 12);
        int k = random.nextInt(4) == 0 ? some(0, 999) : some(0, 6);
        int d = some(0, all);
        switch (random.nextInt(27)) {
            case 0: {
                int p = some(0, 7);
                int q = some(0, 7);
                same("far " + p + " " + q, roads.far(p, q), plain.far(p, q));
                break;
            }
            case 1: case 2: case 3:
                same("go " + a + " " + w, roads.go(a, w), plain.go(a, w));
                break;
            case 4:
                same("turn " + d, roads.turn(d), plain.turn(d));
                break;
            case 5:
                same("fewest " + set, roads.fewest(set), plain.fewest(set));
                break;
            case 6:
                same("step " + set + " " + k, roads.step(set, k), plain.step(set, k));
                break;
            case 7:
                same("comes " + set + " " + d, roads.comes(set, d), plain.comes(set, d));
                break;
            case 8: {
                int what = some(0, 1);
                same("closed " + set + " " + what, roads.closed(set, what), plain.closed(set, what));
                break;
            }
            case 9:
                same("alike", roads.alike(), plain.alike());
                break;
            case 10:
                same("decoys " + a, roads.decoys(a), plain.decoys(a));
                break;
            case 11: {
                int places = some(0, 255) & (random.nextBoolean() ? -1 : 7);
                boolean back = random.nextBoolean();
                same("post " + a + " " + places + " " + back, roads.post(a, places, back), plain.post(a, places, back));
                break;
            }
            case 12: {
                int steps = random.nextBoolean() ? some(0, 2000) : some(0, 20);
                int what = some(0, 2);
                same("longest " + a + " " + steps, roads.longest(a, steps, what), plain.longest(a, steps, what));
                break;
            }
            case 13:
                same("covers " + a, roads.covers(a), plain.covers(a));
                break;
            case 14: {
                int what = some(0, 1);
                same("settles " + a + " " + what, roads.settles(a, what), plain.settles(a, what));
                break;
            }
            case 15: case 16:
                for (int i = random.nextInt(8); i >= 0; i--) {
                    int g = some(0, Math.max(goers - 1, 0));
                    int v = some(0, Math.max(ways - 1, 0));
                    if (random.nextInt(30) == 0) {
                        g = -1;
                    }
                    same("row " + g + " " + v, roads.row(g, v), plain.row(g, v));
                }
                same("done", roads.done(), plain.done());
                break;
            case 17:
                for (int i = -1; i <= plain.count(7); i++) {
                    same("free " + i, roads.free(i), plain.free(i));
                }
                break;
            case 18: case 19: case 20:
                same("tick " + r + " " + n, roads.tick(r, n), plain.tick(r, n));
                break;
            case 21: {
                int what = some(0, 3);
                same("ahead " + r + " " + n + " " + what, roads.ahead(r, n, what), plain.ahead(r, n, what));
                break;
            }
            case 22:
                same("finest " + n, roads.finest(n), plain.finest(n));
                break;
            case 23: {
                int few = some(0, 40);
                same("home " + r + " " + few, roads.home(r, few), plain.home(r, few));
                break;
            }
            case 24: {
                int x = random.nextInt();
                same("seed " + x, roads.seed(x), plain.seed(x));
                break;
            }
            case 25: {
                int m = some(1, 20);
                int few = some(0, random.nextInt(5) == 0 ? 300 : 40);
                int what = some(0, 2);
                same("days " + r + " " + m + " " + few + " " + what, roads.days(r, m, few, what), plain.days(r, m, few, what));
                break;
            }
            default: {
                int image = some(0, 3);
                if (random.nextBoolean()) {
                    same("image " + image, roads.image(image), plain.image(image));
                } else {
                    same("back " + image, roads.back(image), plain.back(image));
                }
            }
        }
    }

    public static void main(String[] args) {
        int runs = args.length > 0 ? Integer.parseInt(args[0]) : 700;
        int from = args.length > 1 ? Integer.parseInt(args[1]) : 1;
        for (int run = from; run < from + runs && Check.isClean(); run++) {
            random = new Random(run);
            Texts texts = new Texts(random);
            roads = new TurningRoads();
            plain = new PlainRoads();
            log = "run " + run;
            looked();
            int mostWays = run % 20 == 0 ? 14 : 9;
            told(texts, mostWays);
            for (int i = 0; i < 3; i++) {
                ruled(texts);
            }
            int calls = run % 20 == 0 ? 25 : 90;
            for (int i = 0; i < calls && Check.isClean(); i++) {
                int kind = random.nextInt(60);
                if (kind == 0) {
                    told(texts, mostWays);
                } else if (kind == 1) {
                    ruled(texts);
                } else {
                    call();
                }
                if (random.nextInt(8) == 0) {
                    looked();
                }
            }
            looked();
        }
        Check.finish();
    }
}
