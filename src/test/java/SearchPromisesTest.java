/** Promises 12 to 24: what is found out by looking through STATES, rounds, and ROWS. */
public final class SearchPromisesTest {
    private static final int[] FAR_OUT = {Integer.MIN_VALUE, -2, -1, Integer.MAX_VALUE};
    private static final String ROUND = "way 0 1 1;way 1 2 1;way 2 0 1;goer 0 2 0";
    /** One bridge that leads against goer 0; goer 1 can turn it round for him. */
    private static final String BRIDGE = "way 1 0 1;goer 0 1 0;goer 1 1 0;goer 5 5 0";

    private static String ways(int n) {
        StringBuilder b = new StringBuilder();
        for (int i = 0; i < n; i++) {
            b.append("way ").append(i % 7).append(' ').append(i % 7 + 1).append(" 1;");
        }
        return b.toString();
    }

    private static void setsThatAreNone() {
        TurningRoads roads = Check.of(BRIDGE);
        int[] sets = {Integer.MIN_VALUE, -1, 0, 8, 9, Integer.MAX_VALUE};
        for (int set : sets) {
            Check.due("fewest " + set, roads.fewest(set), -1);
            Check.due("step " + set, roads.step(set, 0), -1);
            Check.due("comes " + set, roads.comes(set, 0), -1);
            Check.due("closed " + set, roads.closed(set, 0), -1);
            Check.due("sums " + set, roads.closed(set, 1), -1);
        }
        TurningRoads big = Check.of(ways(14) + "goer 0 1 0;goer 0 2 0;goer 0 3 0");
        Check.due("14 ways and 2 goers", big.fewest(6) != -1 ? 1 : 0, 1);
        Check.due("14 ways and 3 goers", big.fewest(7), -1);
        Check.due("14 ways and 3 goers, sums", big.closed(7, 1), -1);
        Check.due("14 ways and 2 goers, sums", big.closed(5, 1) != -1 ? 1 : 0, 1);
        TurningRoads six = Check.of(ways(2) + "goer 0 1 0;goer 0 0 0;goer 0 0 0;goer 0 0 0;goer 0 0 0;goer 0 0 0");
        Check.due("2 ways and 6 goers", six.fewest(63), 1);
        TurningRoads more = Check.of(ways(3) + "goer 0 1 0;goer 0 0 0;goer 0 0 0;goer 0 0 0;goer 0 0 0;goer 0 0 0");
        Check.due("3 ways and 6 goers", more.fewest(63), -1);
        Check.due("3 ways and 5 goers", more.fewest(31), 1);
        TurningRoads busy = Check.of("way 0 1 9;way 0 2 9;goer 0 1 0;goer 0 2 50", "take 9 - way");
        busy.tick(0, 1);
        Check.due("one is on a way", busy.fewest(1), -1);
        Check.due("one of both is on a way", busy.fewest(3), -1);
        Check.due("the other stands", busy.fewest(2), 1);
        Check.due("by the other way", busy.step(2, 0), 17);
        Check.due("sums with one on a way", busy.closed(2, 1), 1);
        Check.due("nobody goes by a way on which someone is", busy.comes(2, 1), 0);
    }

    private static void fewestAndSteps() {
        TurningRoads roads = Check.of(ROUND);
        Check.due("fewest", roads.fewest(1), 2);
        Check.due("step 0", roads.step(1, 0), 0);
        Check.due("step 1", roads.step(1, 1), 1);
        Check.due("step 2", roads.step(1, 2), -2);
        Check.due("step 999", roads.step(1, 999), -2);
        Check.due("step 1000", roads.step(1, 1000), -1);
        for (int k : FAR_OUT) {
            Check.due("step " + k, roads.step(1, k), -1);
        }
        Check.due("nothing changes", roads.count(3), 0);
        Check.due("no goings", roads.count(4), 0);
        roads.turn(4);
        Check.due("a way turned", roads.fewest(1), 1);
        Check.due("by it", roads.step(1, 0), 2);
        TurningRoads there = Check.of("way 0 1 1;goer 0 0 0");
        Check.due("at his aim now", there.fewest(1), 0);
        Check.due("no step", there.step(1, 0), -2);
        TurningRoads two = Check.of("way 0 1 1;way 0 1 1;goer 0 1 0;goer 0 1 0");
        Check.due("both", two.fewest(3), 2);
        Check.due("the lesser goer by the lesser way", two.step(3, 0), 0);
        Check.due("then the other", two.step(3, 1), 17);
        TurningRoads bridge = Check.of(BRIDGE);
        Check.due("he can't alone", bridge.fewest(1), -2);
        Check.due("no step", bridge.step(1, 0), -2);
        Check.due("both can't be there", bridge.fewest(3), -2);
        Check.due("sums tell so", bridge.closed(3, 1), 0);
        TurningRoads change = Check.of("way 1 0 1;goer 0 1 0;goer 1 0 0");
        Check.due("they change places", change.fewest(3), 2);
        Check.due("first the one who can", change.step(3, 0), 16);
        Check.due("then he", change.step(3, 1), 0);
        Check.due("sums of that", change.closed(3, 1), 1);
        StringBuilder star = new StringBuilder();
        for (int i = 0; i < 14; i++) {
            star.append("way 0 ").append(i == 13 ? 2 : 1).append(" 1;");
        }
        TurningRoads fourteen = Check.of(star + "goer 0 2 0");
        Check.due("14 ways from one place", fourteen.fewest(1), 1);
        Check.due("by the last of them", fourteen.step(1, 0), 13);
        TurningRoads others = Check.of("way 1 0 1;goer 0 1 0;goer 1 0 0");
        Check.due("the others stay", others.fewest(1), -2);
    }

    private static void comesAndClosed() {
        TurningRoads roads = Check.of(ROUND);
        Check.due("as they are", roads.comes(1, 0), 1);
        Check.due("all round", roads.comes(1, 7), 1);
        Check.due("one way alone", roads.comes(1, 1), 0);
        Check.due("two ways", roads.comes(1, 3), 0);
        Check.due("closed", roads.closed(1, 0), 2);
        Check.due("sums", roads.closed(1, 1), 1);
        Check.due("alike", roads.alike(), 2);
        int[] wrong = {-1, 8, Integer.MIN_VALUE, Integer.MAX_VALUE};
        for (int d : wrong) {
            Check.due("comes " + d, roads.comes(1, d), -1);
            Check.due("closed what " + d, roads.closed(1, d), -1);
        }
        Check.due("closed what 2", roads.closed(1, 2), -1);
        TurningRoads line = Check.of("way 0 1 1;way 1 2 1;goer 0 2 0;goer 7 6 0");
        Check.due("closed of a line", line.closed(1, 0), 1);
        Check.due("alike of a line", line.alike(), 1);
        Check.due("sums of a line", line.closed(1, 1), 1);
        Check.due("one with no way", line.closed(2, 0), 1);
        Check.due("can't be at his aim", line.closed(2, 1), 0);
        Check.due("nor both", line.closed(3, 1), 0);
        TurningRoads twin = Check.of("way 0 1 1;way 0 1 1;goer 0 1 0");
        Check.due("there and back", twin.closed(1, 0), 1);
        Check.due("alike of twins", twin.alike(), 1);
        twin.turn(1);
        Check.due("alike of twins that lead both ways", twin.alike(), 2);
        Check.due("closed of these", twin.closed(1, 0), 2);
        Check.due("comes to the other", twin.comes(1, 2), 1);
        Check.due("not to this", twin.comes(1, 0), 0);
    }

    private static void decoys() {
        TurningRoads bridge = Check.of(BRIDGE);
        Check.due("goer 1 must turn the bridge", bridge.decoys(0), 2);
        Check.due("he stands at his aim", bridge.decoys(1), 0);
        Check.due("goer 2 too", bridge.decoys(2), 0);
        int[] wrong = {-1, 3, 6, Integer.MIN_VALUE, Integer.MAX_VALUE};
        for (int goer : wrong) {
            Check.due("decoys " + goer, bridge.decoys(goer), -1);
        }
        Check.due("by himself", Check.of(ROUND).decoys(0), 0);
        Check.due("nobody can help", Check.of("way 0 1 1;goer 2 3 0;goer 0 1 0").decoys(0), -2);
        Check.due("two bridges, and one who turns both",
            Check.of("way 1 0 1;way 2 1 1;goer 0 2 0;goer 7 7 0;goer 1 1 0;goer 2 2 0").decoys(0), 8);
        Check.due("two who can: the least number",
            Check.of("way 1 0 1;goer 0 1 0;goer 5 5 0;goer 1 1 0;goer 1 1 0").decoys(0), 4);
        Check.due("two must go ahead",
            Check.of("way 1 0 1;way 1 2 1;way 3 2 1;goer 0 3 0;goer 1 1 0;goer 3 3 0").decoys(0), 6);
        Check.due("one of a greater number rather than two",
            Check.of("way 1 0 1;way 1 2 1;way 3 2 1;way 4 0 1;way 4 3 1;goer 0 3 0;goer 1 1 0;goer 3 3 0;goer 4 4 0").decoys(0), 8);
        TurningRoads busy = Check.of("way 1 0 9;way 1 3 9;goer 0 1 0;goer 1 3 0", "take way");
        busy.tick(0, 1);
        Check.due("one on a way is no decoy", busy.decoys(0), -2);
        Check.due("one on a way needs none told", busy.decoys(1), -1);
    }

    private static void posts() {
        TurningRoads roads = Check.of(ROUND);
        Check.due("nowhere", roads.post(0, 0, false), 0);
        Check.due("nowhere and back", roads.post(0, 0, true), 0);
        Check.due("where he stands", roads.post(0, 1, true), 0);
        Check.due("one on", roads.post(0, 2, false), 1);
        Check.due("one on and back", roads.post(0, 2, true), 2);
        Check.due("all three", roads.post(0, 7, false), 2);
        Check.due("all three and back", roads.post(0, 7, true), 3);
        Check.due("what can't be", roads.post(0, 8, false), -2);
        Check.due("all", roads.post(0, 255, true), -2);
        int[] wrong = {-1, 256, Integer.MIN_VALUE, Integer.MAX_VALUE};
        for (int no : wrong) {
            Check.due("post over " + no, roads.post(0, no, false), -1);
            Check.due("post of " + no, roads.post(no, 1, false), -1);
        }
        Check.due("9 ways", Check.of(ways(9) + "goer 0 1 0").post(0, 255, false), 7);
        Check.due("10 ways", Check.of(ways(10) + "goer 0 1 0").post(0, 255, false), -1);
        Check.due("there and back by a line", Check.of(ways(7) + "goer 0 1 0").post(0, 255, true), 14);
        TurningRoads busy = Check.of("way 0 1 9;goer 0 1 0;goer 0 1 5", "take 1");
        busy.tick(0, 1);
        Check.due("he is on a way", busy.post(0, 1, false), -1);
        Check.due("someone is on it", busy.post(1, 2, false), -2);
    }

    private static void longest() {
        TurningRoads roads = Check.of(ROUND + ";goer 5 4 0");
        Check.due("no step", roads.longest(0, 0, 0), 0);
        // by way 0 to 1; by way 1 (0 was gone by) to 2; by way 2 to 0; then all are turned: by 2 (0 leads to 0 now) ..
        int[] places = {0, 1, 2, 0, 2, 1, 0, 1};
        int[] directions = {0, 1, 3, 7, 3, 1, 0, 1};
        for (int n = 0; n < places.length; n++) {
            Check.due("place behind " + n, roads.longest(0, n, 0), places[n]);
            Check.due("directions behind " + n, roads.longest(0, n, 1), directions[n]);
            Check.due("steps of " + n, roads.longest(0, n, 2), n);
        }
        Check.due("2000 steps", roads.longest(0, 2000, 2), 2000);
        Check.due("he stops at once", roads.longest(1, 7, 2), 0);
        Check.due("and stays", roads.longest(1, 7, 0), 5);
        Check.due("nothing changes", roads.count(4), 0);
        int[] wrong = {-1, Integer.MIN_VALUE, 2001, Integer.MAX_VALUE};
        for (int no : wrong) {
            Check.due("longest " + no + " steps", roads.longest(0, no, 0), -1);
            Check.due("longest of " + no, roads.longest(no, 1, 0), -1);
            Check.due("longest what " + no, roads.longest(0, 1, no), -1);
            Check.due("covers of " + no, roads.covers(no), -1);
            Check.due("settles of " + no, roads.settles(no, 0), -1);
            Check.due("settles what " + no, roads.settles(0, no), -1);
        }
        Check.due("longest what 3", roads.longest(0, 1, 3), -1);
        Check.due("settles what 2", roads.settles(0, 2), -1);
        TurningRoads choice = Check.of("way 0 1 1;way 0 2 1;way 0 3 1;goer 0 5 0");
        Check.due("the least of those never gone by", choice.longest(0, 1, 0), 1);
        choice.go(0, 0);
        choice.go(0, 0);
        Check.due("one gone by comes later", choice.longest(0, 1, 0), 2);
        choice.go(0, 1);
        choice.go(0, 1);
        choice.go(0, 2);
        choice.go(0, 2);
        Check.due("the least last", choice.longest(0, 1, 0), 1);
        Check.due("then the next", choice.longest(0, 3, 0), 2);
    }

    private static void coversAndSettles() {
        TurningRoads roads = Check.of(ROUND + ";goer 5 4 0");
        Check.due("covers", roads.covers(0), 3);
        Check.due("covers, he stops", roads.covers(1), -2);
        Check.due("settles, he stops", roads.settles(1, 0), -2);
        Check.due("settles, he stops, the round", roads.settles(1, 1), -2);
        Check.due("covers without ways", Check.of("goer 0 1 0").covers(0), 0);
        Check.due("covers what he can't come to", Check.of("way 0 1 1;way 2 3 1;goer 0 1 0").covers(0), -2);
        TurningRoads one = Check.of("way 0 1 1;goer 0 1 0");
        Check.due("covers one", one.covers(0), 1);
        Check.due("one way to and fro: ahead", one.settles(0, 0), 0);
        Check.due("one way to and fro: round", one.settles(0, 1), 2);
        TurningRoads two = Check.of("way 0 1 1;way 0 1 1;goer 0 1 0");
        // by 0, back by 0, by 1, back by 1, by 0: behind the first step 1 has the least LAST, as behind the fifth
        Check.due("two ways: ahead", two.settles(0, 0), 1);
        Check.due("two ways: round", two.settles(0, 1), 4);
        Check.due("covers two", two.covers(0), 3);
        two.go(0, 0);
        two.go(0, 0);
        Check.due("covers counts from now on", two.covers(0), 3);
        Check.due("one never gone by is like none: ahead", two.settles(0, 0), 0);
        TurningRoads busy = Check.of("way 0 1 9;way 2 3 1;goer 0 1 0;goer 2 3 50", "take 1");
        Check.due("nobody on a way", busy.covers(1), -2);
        busy.tick(0, 1);
        Check.due("someone on a way: longest", busy.longest(1, 1, 0), -1);
        Check.due("someone on a way: covers", busy.covers(1), -1);
        Check.due("someone on a way: settles", busy.settles(1, 0), -1);
    }

    private static void rows() {
        TurningRoads roads = Check.of(ROUND + ";goer 1 0 0");
        int[][] wrong = {{-2, 0}, {2, 0}, {0, -1}, {0, 3}, {Integer.MIN_VALUE, 0}, {0, Integer.MAX_VALUE}};
        for (int[] w : wrong) {
            Check.due("row " + w[0] + " " + w[1], roads.row(w[0], w[1]), -2);
        }
        for (int i = 1; i <= 40; i++) {
            Check.due("row " + i, roads.row(0, 0), i);
        }
        Check.due("41st", roads.row(0, 0), -2);
        Check.due("40 there", roads.count(7), 40);
        Check.due("to and fro 40 times", roads.done(), 40);
        Check.due("nothing changes", roads.count(4), 0);
        Check.due("free at the end", roads.free(38), 1);
        Check.due("free behind the end", roads.free(39), -1);
        Check.due("emptied", roads.row(-1, 99), 0);
        Check.due("none there", roads.count(7), 0);
        Check.due("done of none", roads.done(), 0);
        Check.due("free of none", roads.free(0), -1);
    }

    private static void doneAndFree() {
        TurningRoads roads = Check.of(ROUND + ";goer 1 0 0");
        roads.row(0, 0);
        Check.due("free of one", roads.free(0), -1);
        roads.row(1, 1);
        roads.row(1, 1);
        roads.row(0, 1);
        roads.row(0, 0);
        roads.row(1, 0);
        roads.row(1, 2);
        Check.due("done till one can't", roads.done(), 4);
        Check.due("both by unlike ways", roads.free(0), 1);
        Check.due("the same twice", roads.free(1), 1);
        Check.due("two by one way, one behind the other", roads.free(2), 0);
        Check.due("the second can't be done", roads.free(3), 0);
        Check.due("what is ahead can't be done", roads.free(5), 0);
        int[] wrong = {-1, 6, 7, Integer.MIN_VALUE, Integer.MAX_VALUE};
        for (int k : wrong) {
            Check.due("free " + k, roads.free(k), -1);
        }
        TurningRoads swap = Check.of("way 0 1 1;way 0 1 1;goer 0 1 0;goer 0 1 0");
        swap.row(0, 0);
        swap.row(1, 0);
        Check.due("two by one way from one end", swap.free(0), 0);
        TurningRoads busy = Check.of("way 0 1 9;way 0 1 1;goer 0 1 0;goer 0 1 50", "take 9 - way");
        busy.row(1, 1);
        busy.row(1, 0);
        busy.row(0, 1);
        Check.due("done ahead", busy.done(), 1);
        busy.tick(0, 1);
        busy.row(-1, 0);
        busy.row(0, 1);
        Check.due("one on a way can't go", busy.done(), 0);
        busy.row(-1, 0);
        busy.row(1, 0);
        Check.due("nor one by a way on which someone is", busy.done(), 0);
        busy.row(-1, 0);
        busy.row(1, 1);
        Check.due("but by another", busy.done(), 1);
    }

    public static void main(String[] args) {
        setsThatAreNone();
        fewestAndSteps();
        comesAndClosed();
        decoys();
        posts();
        longest();
        coversAndSettles();
        rows();
        doneAndFree();
        Check.finish();
    }
}
