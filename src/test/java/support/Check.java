import java.util.List;

/** Counts answers that are not as due, and feeds texts. */
final class Check {
    /** The words of the document that is checked, if a test tells them. */
    static String words = null;
    private static int wrong = 0;
    private static int checked = 0;

    private Check() {
    }

    static void due(String what, long got, long want) {
        checked++;
        if (got != want) {
            wrong++;
            if (wrong <= 50) {
                String quote = words == null ? "" : "\"" + words + "\": ";
                System.out.println(quote + what + " answered " + got + ", due is " + want);
            }
        }
    }

    /** That nothing has changed since a look. */
    static void same(String what, List<Integer> before, TurningRoads roads) {
        due(what + ": nothing changes", Look.at(roads).equals(before) ? 1 : 0, 1);
    }

    static boolean isClean() {
        return wrong == 0;
    }

    static int checked() {
        return checked;
    }

    /** The TAPE becomes this text (of at most 400 bytes). */
    static void tape(TurningRoads roads, String text) {
        roads.end(0);
        for (int at = 0; at < text.length(); at += 20) {
            int[] four = new int[5];
            for (int i = 0; i < 20; i++) {
                int sign = at + i < text.length() ? text.charAt(at + i) & 255 : 0;
                four[i / 4] = four[i / 4] << 8 | sign;
            }
            roads.feed(four[0], four[1], four[2], four[3], four[4]);
        }
        roads.end(text.length());
    }

    static int land(TurningRoads roads, String text) {
        tape(roads, text);
        return roads.land();
    }

    static int rule(TurningRoads roads, String text) {
        tape(roads, text);
        return roads.rule();
    }

    static TurningRoads of(String land, String... rules) {
        TurningRoads roads = new TurningRoads();
        if (land(roads, land) < 0) {
            due("land " + land, -1, 0);
        }
        for (int i = 0; i < rules.length; i++) {
            due("rule " + rules[i], rule(roads, rules[i]), i);
        }
        return roads;
    }

    /** What land or rule answers at a FAULT. */
    static int fault(int place, int kind) {
        return -2 - (1 + 8 * place + kind);
    }

    static void finish() {
        System.out.println(checked + " answers looked at, " + wrong + " not as due");
        if (wrong != 0) {
            System.exit(1);
        }
    }
}
