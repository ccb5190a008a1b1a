import java.util.ArrayList;
import java.util.Arrays;
import java.util.HashMap;
import java.util.List;
import java.util.Map;
import java.util.Random;

/**
 * What the promises say of one another, in random lands: rows that were found are gone by, what is looked ahead at
 * happens, and the like. No second model is asked, only the class itself.
 */
public final class TogetherTest {
    private static Random random;
    private static TurningRoads roads;
    private static String about;
    private static String told;
    private static String ruleTold;

    private static void due(String what, long got, long want) {
        Check.due(about + ": " + what, got, want);
    }

    private static boolean anyOnAWay() {
        for (int goer = 0; goer < roads.count(1); goer++) {
            if (roads.goer(goer, 3) != TurningRoads.NONE) {
                return true;
            }
        }
        return false;
    }

    private static boolean allAtAims(int set) {
        for (int goer = 0; goer < roads.count(1); goer++) {
            if ((set >> goer & 1) != 0 && roads.goer(goer, 0) != roads.goer(goer, 1)) {
                return false;
            }
        }
        return true;
    }

    /** The first row leads there, has no fewer goings than it says, and its sums are right. */
    private static void searched(int set) {
        int fewest = roads.fewest(set);
        due("step -2 behind the last of " + set, roads.step(set, Math.max(fewest, 0)), fewest == TurningRoads.NONE ? -1 : -2);
        if (fewest < 0) {
            return;
        }
        due("sums of " + set, roads.closed(set, 1), 1);
        List<Integer> row = new ArrayList<>();
        for (int k = 0; k < fewest; k++) {
            row.add(roads.step(set, k));
        }
        roads.image(0);
        for (int k = 0; k < fewest; k++) {
            due("not yet there ahead of " + k, allAtAims(set) ? 1 : 0, 0);
            due("fewest left of " + set, roads.fewest(set), fewest - k);
            due("the rest of the first row is the first row", roads.step(set, 0), row.get(k));
            due("a going of the set", set >> (row.get(k) >> 4) & 1, 1);
            due("goes by its row", roads.go(row.get(k) >> 4, row.get(k) & 15) >= 0 ? 1 : 0, 1);
        }
        due("stands at the aims by its row", allAtAims(set) ? 1 : 0, 1);
        roads.back(0);
    }

    private static void closed(int set) {
        int closed = roads.closed(set, 0);
        if (closed < 0) {
            return;
        }
        int found = 0;
        for (int d = 0; d < 1 << roads.count(0); d++) {
            found += roads.comes(set, d);
        }
        due("directions that can be come to", found, closed);
        due("as they are now can be come to", roads.comes(set, roads.count(3)), 1);
        due("those are alike", closed <= roads.alike() ? 1 : 0, 1);
    }

    private static void helped(int goer) {
        int set = roads.decoys(goer);
        int alone = roads.fewest(1 << goer);
        due("needs none if he can alone", set == 0 ? 1 : 0, alone >= 0 ? 1 : 0);
        if (alone == TurningRoads.NONE) {
            return;
        }
        if (roads.count(0) <= 9) {
            int aim = 1 << roads.goer(goer, 1);
            due("a post to the aim", roads.post(goer, aim, false), alone);
            int there = roads.post(goer, 255, false);
            int andBack = roads.post(goer, 255, true);
            due("a post that comes back has no fewer", there < 0 ? andBack : andBack < 0 || andBack >= there ? -2 : 0, -2);
        }
        for (int others = 1; set == -2 && others < 1 << roads.count(1); others++) {
            due("none helps, nor can he with all at their aims", roads.fewest(others | 1 << goer) < 0 ? 1 : 0, 1);
        }
    }

    private static String situation(int goer) {
        int ways = roads.count(0);
        StringBuilder b = new StringBuilder();
        b.append(roads.goer(goer, 0)).append(' ').append(roads.count(3));
        for (int way = 0; way < ways; way++) {
            int less = 0;
            for (int other = 0; other < ways; other++) {
                less += roads.way(other, 4) < roads.way(way, 4) ? 1 : 0;
            }
            b.append(' ').append(less);
        }
        return b.toString();
    }

    /** The way not taken for longest; NONE if none leads away. */
    private static int oldest(int goer) {
        int best = TurningRoads.NONE;
        for (int way = 0; way < roads.count(0); way++) {
            boolean leads = roads.way(way, 0) == roads.goer(goer, 0);
            if (leads && (best < 0 || roads.way(way, 4) < roads.way(best, 4))) {
                best = way;
            }
        }
        return best;
    }

    /** Gone by hand, as far as some paces show. */
    private static void circled(int goer) {
        int most = 300;
        int covers = roads.covers(goer);
        int ahead = roads.settles(goer, 0);
        int round = roads.settles(goer, 1);
        int[] places = new int[most + 1];
        int[] directions = new int[most + 1];
        int[] paces = new int[most + 1];
        for (int n = 0; n <= most; n++) {
            places[n] = roads.longest(goer, n, 0);
            directions[n] = roads.longest(goer, n, 1);
            paces[n] = roads.longest(goer, n, 2);
        }
        Map<String, Integer> seen = new HashMap<>();
        roads.image(0);
        int left = (1 << roads.count(0)) - 1;
        int covered = left == 0 ? 0 : -2;
        boolean stopped = false;
        boolean again = false;
        for (int n = 0; n <= most && !stopped; n++) {
            due("place behind " + n, places[n], roads.goer(goer, 0));
            due("directions behind " + n, directions[n], roads.count(3));
            due("paces", paces[n], n);
            Integer before = again ? null : seen.putIfAbsent(situation(goer), n);
            if (before != null) {
                again = true;
                due("ahead of the round", ahead, before);
                due("the round", round, n - before);
            }
            int way = oldest(goer);
            stopped = way < 0;
            if (!stopped) {
                roads.go(goer, way);
                left &= ~(1 << way);
                covered = left == 0 && covered < 0 ? n + 1 : covered;
            } else {
                due("he stops", roads.longest(goer, 2000, 2), n);
                due("who stops has no round", ahead, -2);
                due("nor that", round, -2);
            }
        }
        if (covers <= most || covered >= 0) {
            due("covers", covers, covered);
        }
        if (!stopped && !again) {
            due("a later round or none", ahead == -2 || ahead + round > most ? 1 : 0, 1);
        }
        roads.back(0);
    }

    private static void rowed() {
        int ways = roads.count(0);
        int goers = roads.count(1);
        // A row of which more can be done: most of its goings are found by going.
        int[] row = new int[10];
        roads.row(-1, 0);
        roads.image(0);
        for (int i = 0; i < row.length; i++) {
            row[i] = 16 * random.nextInt(goers) + random.nextInt(ways);
            for (int tries = 0; tries < 40 && roads.go(row[i] >> 4, row[i] & 15) < 0; tries++) {
                row[i] = 16 * random.nextInt(goers) + random.nextInt(ways);
            }
        }
        roads.back(0);
        for (int going : row) {
            roads.row(going >> 4, going & 15);
        }
        int done = roads.done();
        roads.image(0);
        int gone = goneBy(row);
        roads.back(0);
        due("done", done, gone);
        for (int k = 0; k + 1 < row.length; k++) {
            int free = roads.free(k);
            due("free of " + Arrays.toString(row) + " at " + k, free, freeByHand(Arrays.copyOf(row, k + 2)));
        }
        due("free of the last", roads.free(row.length - 1), -1);
    }

    private static int goneBy(int[] row) {
        for (int i = 0; i < row.length; i++) {
            if (roads.go(row[i] >> 4, row[i] & 15) < 0) {
                return i;
            }
        }
        return row.length;
    }

    private static int freeByHand(int[] row) {
        int n = row.length;
        roads.image(0);
        boolean one = goneBy(row) == n;
        String oneState = state();
        roads.back(0);
        int[] changed = row.clone();
        changed[n - 2] = row[n - 1];
        changed[n - 1] = row[n - 2];
        boolean other = goneBy(changed) == n;
        String otherState = state();
        roads.back(0);
        return one && other && oneState.equals(otherState) ? 1 : 0;
    }

    private static String state() {
        StringBuilder b = new StringBuilder();
        b.append(roads.count(3));
        for (int goer = 0; goer < roads.count(1); goer++) {
            b.append(' ').append(roads.goer(goer, 0));
        }
        return b.toString();
    }

    private static int atAims() {
        int found = 0;
        for (int goer = 0; goer < roads.count(1); goer++) {
            found += allAtAims(1 << goer) ? 1 : 0;
        }
        return found;
    }

    private static void passed(int rule) {
        int n = 1 + random.nextInt(40);
        int[] ahead = new int[4];
        for (int what = 0; what < 4; what++) {
            ahead[what] = roads.ahead(rule, n, what);
        }
        int home = roads.home(rule, n);
        int goings = roads.count(4);
        int met = roads.count(6);
        int clock = roads.count(5);
        roads.image(0);
        int first = allAtAims(63) ? 0 : -2;
        for (int minute = 1; minute <= n; minute++) {
            due("the clock", roads.tick(rule, 1), clock + minute);
            first = first < 0 && allAtAims(63) ? minute : first;
        }
        due("at their aims", ahead[0], atAims());
        due("met", ahead[1], roads.count(6) - met);
        due("goings", ahead[2], roads.count(4) - goings);
        due("directions", ahead[3], roads.count(3));
        due("all home", home, first);
        String minuteByMinute = state();
        roads.back(0);
        roads.tick(rule, n);
        due("minutes at once are as minutes one by one", state().equals(minuteByMinute) ? 1 : 0, 1);
        roads.back(0);
    }

    private static void finest() {
        int n = random.nextInt(60);
        int best = roads.finest(n);
        for (int rule = 0; rule < roads.count(2); rule++) {
            int more = roads.ahead(rule, n, 0) - roads.ahead(best, n, 0);
            int less = roads.ahead(rule, n, 1) - roads.ahead(best, n, 1);
            boolean finer = more > 0 || more == 0 && (less < 0 || less == 0 && rule < best);
            due("finer than the finest", finer ? 1 : 0, 0);
        }
    }

    /** Each day is a land of its own, told with later minutes to leave. */
    private static void days(String land) {
        int x = random.nextInt() & 2147483647;
        int m = 1 + random.nextInt(4);
        int n = random.nextInt(120);
        int[] sums = new int[3];
        long next = x;
        for (int day = 0; day < m; day++) {
            StringBuilder later = new StringBuilder();
            for (String clause : land.split(";")) {
                String[] parts = clause.split(" ");
                if (parts[0].equals("goer")) {
                    next = (next * 1103515245L + 12345) % 2147483648L;
                    parts[3] = String.valueOf(Integer.parseInt(parts[3]) + next / 65536 % 60);
                }
                later.append(later.length() > 0 ? ";" : "").append(String.join(" ", parts));
            }
            TurningRoads one = Check.of(later.toString(), ruleTold);
            int home = one.ahead(0, n, 0);
            sums[0] += home;
            sums[1] += one.ahead(0, n, 1);
            sums[2] += home == one.count(1) ? 1 : 0;
        }
        TurningRoads all = Check.of(land, ruleTold);
        all.seed(x);
        for (int what = 0; what < 3; what++) {
            due("days " + m + " of " + n + ", " + what, all.days(0, m, n, what), sums[what]);
        }
        due("x behind days", all.count(8), x);
    }

    private static String land(int ways, int goers, int places) {
        List<String> clauses = new ArrayList<>();
        for (int i = 0; i < ways; i++) {
            int from = random.nextInt(places);
            int to = (from + 1 + random.nextInt(places - 1)) % places;
            clauses.add("way " + from + " " + to + " " + (1 + random.nextInt(6)));
        }
        for (int i = 0; i < goers; i++) {
            clauses.add("goer " + random.nextInt(places) + " " + random.nextInt(places) + " " + random.nextInt(9));
        }
        return String.join(";", clauses);
    }

    private static void one(int run) {
        random = new Random(run);
        int places = 2 + random.nextInt(5);
        int goers = 1 + random.nextInt(4);
        told = land(1 + random.nextInt(Math.min(9, 20 - 3 * goers)), goers, places);
        Texts texts = new Texts(random);
        ruleTold = texts.cut(texts.rule(1 + random.nextInt(3)));
        ruleTold = Check.rule(new TurningRoads(), ruleTold) < 0 ? "take 0-far" : ruleTold;
        about = "run " + run + " '" + told + "' by '" + ruleTold + "'";
        roads = Check.of(told, ruleTold, "take last;wait out<there", "take 0-minutes-last*3");
        for (int i = random.nextInt(12); i > 0; i--) {
            roads.go(random.nextInt(goers), random.nextInt(roads.count(0)));
        }
        if (run % 3 == 0) {
            roads.tick(random.nextInt(3), 1 + random.nextInt(12));
        }
        int set = 1 + random.nextInt((1 << goers) - 1);
        searched(set);
        closed(set);
        helped(random.nextInt(goers));
        if (!anyOnAWay()) {
            circled(random.nextInt(goers));
        }
        rowed();
        for (int rule = 0; rule < 3; rule++) {
            passed(rule);
        }
        finest();
        days(told);
    }

    public static void main(String[] args) {
        int runs = args.length > 0 ? Integer.parseInt(args[0]) : 1000;
        for (int run = 1; run <= runs && Check.isClean(); run++) {
            one(run);
        }
        Check.finish();
    }
}
