import java.util.Random;

/** Any arguments in any state: no call throws, and each comes to its end. */
public final class WildTest {
    private static final int[] EDGES = {Integer.MIN_VALUE, Integer.MIN_VALUE + 1, -65536, -101, -100, -3, -2, -1, 0, 1, 2, 3,
        4, 5, 6, 7, 8, 9, 10, 13, 14, 15, 16, 20, 21, 31, 32, 33, 39, 40, 41, 60, 61, 63, 64, 255, 256, 300, 301, 399, 400,
        401, 600, 601, 999, 1000, 2000, 2001, 8191, 16383, 16384, 65535, 99999, 1 << 20, 1 << 30, Integer.MAX_VALUE};

    private static Random random;

    private static int any() {
        int kind = random.nextInt(8);
        return kind == 0 ? random.nextInt() : kind < 5 ? random.nextInt(8) : EDGES[random.nextInt(EDGES.length)];
    }

    private static void text(TurningRoads roads, Texts texts) {
        String text = random.nextBoolean()
            ? texts.land(1 + random.nextInt(16), random.nextInt(8), 2 + random.nextInt(7), 5)
            : texts.rule(1 + random.nextInt(5));
        Check.tape(roads, texts.cut(random.nextInt(3) == 0 ? texts.spoiled(text) : text));
        roads.rule();
        roads.land();
    }

    private static void call(TurningRoads roads, int which) {
        switch (which) {
            case 0: roads.feed(any(), any(), any(), any(), any()); break;
            case 1: roads.end(any()); break;
            case 2: roads.land(); break;
            case 3: roads.rule(); break;
            case 4: roads.way(any(), any()); break;
            case 5: roads.goer(any(), any()); break;
            case 6: roads.place(any(), any()); break;
            case 7: roads.far(any(), any()); break;
            case 8: roads.go(any(), any()); break;
            case 9: roads.turn(any()); break;
            case 10: roads.fewest(any()); break;
            case 11: roads.step(any(), any()); break;
            case 12: roads.comes(any(), any()); break;
            case 13: roads.closed(any(), any()); break;
            case 14: roads.alike(); break;
            case 15: roads.decoys(any()); break;
            case 16: roads.post(any(), any(), random.nextBoolean()); break;
            case 17: roads.longest(any(), any(), any()); break;
            case 18: roads.covers(any()); break;
            case 19: roads.settles(any(), any()); break;
            case 20: roads.row(any(), any()); break;
            case 21: roads.done(); break;
            case 22: roads.free(any()); break;
            case 23: roads.tick(any(), any()); break;
            case 24: roads.ahead(any(), any(), any()); break;
            case 25: roads.finest(any()); break;
            case 26: roads.home(any(), any()); break;
            case 27: roads.seed(any()); break;
            case 28: roads.days(any(), any(), any(), any()); break;
            case 29: roads.count(any()); break;
            case 30: roads.image(any()); break;
            default: roads.back(any());
        }
    }

    public static void main(String[] args) {
        int runs = args.length > 0 ? Integer.parseInt(args[0]) : 400;
        for (int run = 0; run < runs && Check.isClean(); run++) {
            random = new Random(run);
            Texts texts = new Texts(random);
            TurningRoads roads = new TurningRoads();
            for (int i = 0; i < 500; i++) {
                int which = random.nextInt(32);
                try {
                    if (i % 100 == 0) {
                        text(roads, texts);
                    }
                    call(roads, which);
                } catch (RuntimeException | Error e) {
                    e.printStackTrace(System.out);
                    Check.due("run " + run + " call " + i + " of " + which, 1, 0);
                    break;
                }
            }
            Check.due("run " + run, 0, 0);
        }
        Check.finish();
    }
}
