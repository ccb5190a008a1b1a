import java.util.Random;

/** Lands with many WAYS among few PLACES: all that looks through STATES, held against the plain model. */
public final class SearchOracleTest {
    private static TurningRoads roads;
    private static PlainRoads plain;
    private static String log;

    private static void same(String call, int got, int want) {
        Check.due(log + " " + call, got, want);
    }

    private static void both(String text, boolean isLand) {
        roads.end(0);
        plain.end(0);
        for (int at = 0; at < text.length(); at += 20) {
            int[] four = new int[5];
            for (int i = 0; i < 20; i++) {
                four[i / 4] = four[i / 4] << 8 | (at + i < text.length() ? text.charAt(at + i) : 0);
            }
            roads.feed(four[0], four[1], four[2], four[3], four[4]);
            plain.feed(four[0], four[1], four[2], four[3], four[4]);
        }
        roads.end(text.length());
        plain.end(text.length());
        log = isLand ? text : log + " rule " + text;
        same("told", isLand ? roads.land() : roads.rule(), isLand ? plain.land() : plain.rule());
    }

    /** Goes and minutes, so that LASTS differ and someone may be on a WAY. */
    private static void stir(Random random, int goings, int minutes) {
        for (int i = 0; i < goings; i++) {
            int goer = random.nextInt(6);
            int way = random.nextInt(14);
            same("go " + goer + " " + way, roads.go(goer, way), plain.go(goer, way));
            log += " go(" + goer + ", " + way + ")";
        }
        if (minutes > 0) {
            same("tick", roads.tick(0, minutes), plain.tick(0, minutes));
            log += " tick(0, " + minutes + ")";
        }
    }

    private static void searches(Random random, int set, int mostSteps) {
        int fewest = plain.fewest(set);
        same("fewest " + set, roads.fewest(set), fewest);
        for (int k = 0; k <= Math.min(fewest, mostSteps); k++) {
            same("step " + set + " " + k, roads.step(set, k), plain.step(set, k));
        }
        same("closed " + set, roads.closed(set, 0), plain.closed(set, 0));
        same("sums " + set, roads.closed(set, 1), plain.closed(set, 1));
        for (int i = 0; i < 4; i++) {
            int d = random.nextInt(1 << plain.count(0));
            same("comes " + set + " " + d, roads.comes(set, d), plain.comes(set, d));
        }
    }

    private static void alone(Random random, int goer) {
        same("decoys " + goer, roads.decoys(goer), plain.decoys(goer));
        same("covers " + goer, roads.covers(goer), plain.covers(goer));
        same("settles 0 " + goer, roads.settles(goer, 0), plain.settles(goer, 0));
        same("settles 1 " + goer, roads.settles(goer, 1), plain.settles(goer, 1));
        for (int what = 0; what < 3; what++) {
            int n = random.nextInt(2001);
            same("longest " + goer + " " + n, roads.longest(goer, n, what), plain.longest(goer, n, what));
        }
        for (int i = 0; i < 4; i++) {
            int places = random.nextInt(256) & random.nextInt(256);
            same("post " + goer + " " + places, roads.post(goer, places, i % 2 == 0), plain.post(goer, places, i % 2 == 0));
        }
    }

    private static void run(int seed, int ways, int goers, int mostSteps) {
        Random random = new Random(seed);
        Texts texts = new Texts(random);
        roads = new TurningRoads();
        plain = new PlainRoads();
        log = "";
        both(texts.land(ways, goers, 3 + random.nextInt(4), 3), true);
        both("take 9 - far * goer + to", false);
        int turned = random.nextInt(1 << ways);
        same("turn " + turned, roads.turn(turned), plain.turn(turned));
        log += " turn(" + turned + ")";
        stir(random, random.nextInt(25), random.nextInt(3) == 0 ? 1 + random.nextInt(3) : 0);
        for (int i = 0; i < 3; i++) {
            searches(random, 1 + random.nextInt((1 << goers) - 1), mostSteps);
        }
        for (int goer = 0; goer < goers; goer++) {
            alone(random, goer);
        }
        same("alike", roads.alike(), plain.alike());
    }

    public static void main(String[] args) {
        int runs = args.length > 0 ? Integer.parseInt(args[0]) : 250;
        for (int seed = 1; seed <= runs && Check.isClean(); seed++) {
            Random random = new Random(-seed);
            run(seed, 3 + random.nextInt(6), 1 + random.nextInt(4), 12);
            if (seed % 10 == 0) {
                run(seed, 5, 6, 8);
            }
            if (seed % 25 == 0) {
                run(seed, 10 + random.nextInt(5), 1 + random.nextInt(3), 1);
            }
        }
        Check.finish();
    }
}
