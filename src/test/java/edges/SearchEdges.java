import java.util.List;

/** What the document says of the edges of sets of GOERS, POSTS, LONGEST and ROWS: promises 12 to 24 and their Terms. */
final class SearchEdges {
    private static final String ROUND = "way 0 1 1;way 1 2 1;way 2 0 1;goer 0 2 0";
    private static final int[] FAR_OUT = {Integer.MIN_VALUE, Integer.MIN_VALUE + 1, -64, -2, -1, Integer.MAX_VALUE};
    /** LONGEST comes to a round of 2000 steps here, behind 11 steps. */
    private static final String LONG_ROUND = "way 2 1 1;way 1 0 1;way 0 2 1;way 0 2 1;way 2 1 1;way 0 1 1;way 1 0 1;"
        + "way 0 2 1;way 0 1 1;way 1 0 1;way 2 0 1;way 2 1 1;goer 0 0 0";

    private SearchEdges() {
    }

    /** So many WAYS from 0 to 1 and six GOERS that stand at 0, GOER 0 with aim 1, the others at their aims. */
    private static TurningRoads crowd(int ways) {
        return Check.of(Told.times("way 0 1 1", ways, ";") + ";goer 0 1 0;" + Told.times("goer 0 0 0", 5, ";"));
    }

    /** GOER 0 is on WAY 0, GOER 1 stands at 0 from which WAY 1 leads to his aim, too; GOER 2 stands at 7. */
    private static TurningRoads busy() {
        TurningRoads roads = Check.of("way 0 1 9;way 0 1 1;goer 0 1 0;goer 0 1 50;goer 7 7 0", "take 9 - way");
        roads.tick(0, 1);
        return roads;
    }

    private static void sizes() {
        Says.terms("GOINGS of a set of GOERS (1 to 6; that many WAYS and three times how many GOERS, together, 20 at most)");
        for (int ways = 1; ways <= 14; ways++) {
            TurningRoads roads = crowd(ways);
            for (int goers = 1; goers <= 6; goers++) {
                int set = (1 << goers) - 1;
                boolean fits = ways + 3 * goers <= 20;
                String what = " of " + goers + " with ways " + ways;
                Check.due("fewest" + what, roads.fewest(set), fits ? 1 : -1);
                Check.due("step" + what, roads.step(set, 0), fits ? 0 : -1);
                Check.due("comes" + what, roads.comes(set, 0), fits ? 1 : -1);
                Check.due("closed" + what, roads.closed(set, 0), fits ? 1 : -1);
                Check.due("sums" + what, roads.closed(set, 1), fits ? 1 : -1);
            }
        }
        TurningRoads three = Check.of("way 0 1 1;goer 0 1 0;goer 0 0 0;goer 0 0 0");
        Check.due("of none", three.fewest(0), -1);
        Check.due("all of three", three.fewest(7), 1);
        Check.due("one who is not there", three.fewest(8), -1);
        Check.due("one who is not there, with others", three.fewest(9), -1);
        Check.due("a seventh", crowd(2).fewest(64), -1);
        Check.due("a seventh with six", crowd(2).fewest(127), -1);
        Check.due("six of few ways", crowd(2).fewest(63), 1);
        Says.terms("==== II. A STATE is DIRECTIONS and where some told GOERS stand.");
        TurningRoads state = Check.of("way 0 1 1;way 0 1 1;goer 0 0 0;goer 1 1 0");
        state.turn(2);
        Check.due("alike directions, both where they were", state.closed(3, 0), 2);
    }

    private static void fromTheStateAsItIs() {
        Says.terms("from the STATE as it is (the others stay where they are; nobody goes by a WAY on which someone is)");
        TurningRoads others = Check.of("way 1 0 1;goer 0 1 0;goer 1 0 0");
        Check.due("the other doesn't turn it", others.fewest(1), -2);
        Check.due("he does if he is of the set", others.fewest(3), 2);
        others.go(1, 0);
        Check.due("as it is now", others.fewest(1), 1);
        TurningRoads busy = busy();
        Check.due("not by way 0", busy.step(2, 0), 17);
        Check.due("not to these directions", busy.comes(2, 1), 0);
        Check.due("none but these", busy.closed(2, 0), 1);
        Says.terms("FEWEST: the least number of GOINGS behind which each of the set stands at his aim");
        TurningRoads round = Check.of("way 0 1 1;way 1 2 1;way 2 3 1;way 0 3 1;goer 0 3 0;goer 0 1 0");
        Check.due("by one", round.fewest(1), 1);
        Check.due("both", round.fewest(3), 2);
        Check.due("one at his aim", Check.of("way 0 1 1;goer 0 0 0").fewest(1), 0);
        Check.due("none goes away for nothing", Check.of("way 0 1 1;goer 0 0 0;goer 1 1 0").fewest(3), 0);
        Says.terms("FIRST ROW: of rows of so many that do it the first (GOING by GOING: the lesser GOER, then the lesser WAY)");
        TurningRoads rows = Check.of("way 0 1 1;way 0 1 1;way 0 2 1;way 2 1 1;goer 0 1 0;goer 0 1 0");
        Check.due("the lesser goer by the lesser way", rows.step(3, 0), 0);
        Check.due("then the other one", rows.step(3, 1), 17);
        Check.due("of goer 1 alone", rows.step(2, 0), 16);
        TurningRoads later = Check.of("way 1 0 1;goer 0 1 0;goer 1 0 0");
        Check.due("the lesser one can't be first", later.step(3, 0), 16);
        Check.due("he is the next", later.step(3, 1), 0);
        TurningRoads lesser = Check.of("way 0 2 1;way 0 1 1;way 2 1 1;way 1 3 1;goer 0 1 0");
        Check.due("not the lesser way if it is farther", lesser.step(1, 0), 1);
        TurningRoads line = Check.of("way 5 6 1;way 0 1 1;way 2 3 1;way 1 2 1;way 6 7 1;way 4 5 1;way 3 4 1;goer 0 7 0");
        int[] row = {1, 3, 2, 6, 5, 0, 4};
        Check.due("seven", line.fewest(1), 7);
        for (int k = 0; k < row.length; k++) {
            Check.due("going " + k + " of seven", line.step(1, k), row[k]);
        }
        Check.due("no eighth", line.step(1, 7), -2);
    }

    /** What one call looked through leaves nothing behind for the next. */
    private static void askedAgain() {
        Says.terms("from the STATE as it is");
        TurningRoads roads = Check.of("way 0 1 1;way 1 2 1;way 2 0 1;way 3 2 1;goer 0 3 0;goer 3 0 0;goer 2 2 0");
        int[] due = {-2, 2, 2, -2, 2, 0, 4, 1, 3, 1, 1, 2};
        for (int again = 0; again < 3; again++) {
            int[] got = {roads.fewest(1), roads.closed(1, 0), roads.closed(1, 0), roads.step(1, 0), roads.decoys(0), roads.decoys(1),
                roads.post(1, 5, true), roads.post(1, 4, false), roads.post(0, 7, true), roads.comes(1, 7), roads.comes(1, 0),
                roads.fewest(2)};
            for (int i = 0; i < due.length; i++) {
                Check.due("answer " + i + ", asked for the time " + again, got[i], due[i]);
            }
            Check.due("no such going", roads.step(3, 999), -2);
            Check.due("the first going", roads.step(3, 0), 19);
        }
    }

    private static void directionsComeTo() {
        Says.terms("COMES: whether DIRECTIONS can be come to with each of the set where he stands now (in none or more GOINGS)");
        TurningRoads round = Check.of(ROUND);
        Check.due("in none", round.comes(1, 0), 1);
        Check.due("in three", round.comes(1, 7), 1);
        Check.due("he would stand elsewhere", round.comes(1, 1), 0);
        TurningRoads swap = Check.of("way 0 1 1;goer 0 1 0;goer 1 0 0");
        Check.due("another would stand there in his place", swap.comes(3, 1), 0);
        Says.terms("CLOSED: how many DIRECTIONS can be come to so");
        Check.due("these and all turned", round.closed(1, 0), 2);
        Check.due("these alone", swap.closed(3, 0), 1);
        TurningRoads twins = Check.of(Told.times("way 0 1 1", 14, ";") + ";goer 0 0 0");
        twins.turn(127);
        Check.due("seven of 14", twins.closed(1, 0), 3432);
        Says.terms("ALIKE: how many DIRECTIONS there are of which as many WAYS lead away from each PLACE as now");
        Check.due("of a round", round.alike(), 2);
        Check.due("seven of 14", twins.alike(), 3432);
        twins.turn(0);
        Check.due("all of 14", twins.alike(), 1);
        twins.turn(8192);
        Check.due("one of 14", twins.alike(), 14);
        Says.terms("SUMS: whether there are any DIRECTIONS with which KEPT of each PLACE is what it is now, "
            + "were each of the set at his aim (the others where they are).");
        TurningRoads bridge = Check.of("way 1 0 1;goer 0 1 0;goer 1 0 0;goer 1 1 0;goer 5 6 0");
        Check.due("alone he can't", bridge.closed(1, 1), 0);
        Check.due("they change places", bridge.closed(3, 1), 1);
        Check.due("one who is at his aim", bridge.closed(4, 1), 1);
        Check.due("with one who is at his aim", bridge.closed(7, 1), 1);
        Check.due("one without a way", bridge.closed(8, 1), 0);
        Check.due("with one without a way", bridge.closed(11, 1), 0);
        Check.due("sums hold though none can go there",
            Check.of("way 0 1 1;way 2 0 1;way 1 2 1;way 3 4 1;way 4 5 1;way 5 3 1;goer 0 0 0").closed(1, 1), 1);
    }

    private static void fewestAnswers() {
        Says.promise(12, "FEWEST; -2: they can't");
        Check.due("two", Check.of(ROUND).fewest(1), 2);
        Check.due("none", Check.of("goer 4 4 0").fewest(1), 0);
        Check.due("he can't", Check.of("way 1 0 1;goer 0 1 0").fewest(1), -2);
        Check.due("no way", Check.of("goer 0 1 0").fewest(1), -2);
        Says.promise(12, "NONE without these (a set of GOERS that all stand; sizes as told)");
        TurningRoads busy = busy();
        List<Integer> before = Look.at(busy);
        Check.due("he is on a way", busy.fewest(1), -1);
        Check.due("one of two is on a way", busy.fewest(3), -1);
        Check.due("one of three is on a way", busy.fewest(7), -1);
        Check.due("both stand", busy.fewest(6), 1);
        Check.due("of none", busy.fewest(0), -1);
        Check.due("one who is not there", busy.fewest(8), -1);
        Check.due("too many ways", crowd(3).fewest(63), -1);
        for (int no : FAR_OUT) {
            Check.due("fewest " + no, busy.fewest(no), -1);
        }
        Check.same("fewest", before, busy);
    }

    private static void stepAnswers() {
        Says.promise(13, "FIRST ROW, its k-th GOING (from 0 on): 16 * GOER + WAY");
        TurningRoads line = Check.of(Told.times("way 3 4 1", 13, ";") + ";way 0 1 1;goer 3 3 0;goer 0 1 0");
        Check.due("goer 1 by way 13", line.step(2, 0), 29);
        TurningRoads last = Check.of("way 0 1 1;way 5 6 1;" + Told.times("goer 0 0 0", 5, ";") + ";goer 5 6 0");
        Check.due("goer 5 by way 1", last.step(63, 0), 81);
        Check.due("the second", Check.of(ROUND).step(1, 1), 1);
        Says.promise(13, "-2: they can't, or there is none");
        TurningRoads round = Check.of(ROUND);
        Check.due("the third of two", round.step(1, 2), -2);
        Check.due("the last that may be asked", round.step(1, 999), -2);
        Check.due("of none", Check.of("goer 4 4 0").step(1, 0), -2);
        Check.due("they can't", Check.of("goer 4 5 0").step(1, 0), -2);
        Check.due("they can't, any", Check.of("goer 4 5 0").step(1, 999), -2);
        Says.promise(13, "NONE without these (k 0 to 999)");
        List<Integer> before = Look.at(round);
        Check.due("k -1", round.step(1, -1), -1);
        Check.due("k 1000", round.step(1, 1000), -1);
        Check.due("k 1000 of what can't be", Check.of("goer 4 5 0").step(1, 1000), -1);
        for (int no : FAR_OUT) {
            Check.due("k " + no, round.step(1, no), -1);
            Check.due("set " + no, round.step(no, 0), -1);
        }
        Check.due("of none", round.step(0, 0), -1);
        Check.due("one who is not there", round.step(2, 0), -1);
        Check.due("one on a way", busy().step(1, 0), -1);
        Check.same("step", before, round);
    }

    private static void comesAnswers() {
        Says.promise(14, "COMES: 1 if so, else 0");
        TurningRoads round = Check.of(ROUND);
        int[] due = {1, 0, 0, 0, 0, 0, 0, 1};
        for (int directions = 0; directions < 8; directions++) {
            Check.due("comes " + directions, round.comes(1, directions), due[directions]);
        }
        TurningRoads most = Check.of(Told.times("way 0 1 1", 14, ";") + ";goer 0 0 0");
        most.turn(127);
        Check.due("the other seven of 14", most.comes(1, 16256), 1);
        Check.due("all of 14", most.comes(1, 16383), 0);
        Says.promise(14, "NONE without these.");
        List<Integer> before = Look.at(round);
        Check.due("directions -1", round.comes(1, -1), -1);
        Check.due("directions 8", round.comes(1, 8), -1);
        Check.due("16384 of 14", most.comes(1, 16384), -1);
        for (int no : FAR_OUT) {
            Check.due("directions " + no, round.comes(1, no), -1);
            Check.due("set " + no, round.comes(no, 0), -1);
        }
        Check.due("of none", round.comes(0, 0), -1);
        Check.due("one who is not there", round.comes(2, 0), -1);
        Check.due("one on a way", busy().comes(1, 0), -1);
        Check.due("no ways", Check.of("goer 0 1 0").comes(1, 0), 1);
        Check.due("directions of no ways", Check.of("goer 0 1 0").comes(1, 1), -1);
        Check.same("comes", before, round);
    }

    private static void closedAnswers() {
        Says.promise(15, "What 0: CLOSED, 1: SUMS (1 if there are any, else 0).");
        TurningRoads line = Check.of("way 0 1 1;way 1 2 1;goer 0 2 0;goer 7 6 0");
        Check.due("closed", line.closed(1, 0), 1);
        Check.due("closed of one without a way", line.closed(2, 0), 1);
        Check.due("sums", line.closed(1, 1), 1);
        Check.due("no sums", line.closed(2, 1), 0);
        Check.due("closed without ways", Check.of("goer 0 1 0").closed(1, 0), 1);
        Check.due("sums without ways", Check.of("goer 0 1 0").closed(1, 1), 0);
        Check.due("many sums are 1", Check.of("way 0 1 1;way 1 0 1;goer 0 0 0").closed(1, 1), 1);
        Says.promise(15, "NONE without these.");
        List<Integer> before = Look.at(line);
        Check.due("what -1", line.closed(1, -1), -1);
        Check.due("what 2", line.closed(1, 2), -1);
        for (int no : FAR_OUT) {
            Check.due("what " + no, line.closed(1, no), -1);
            Check.due("set " + no, line.closed(no, 0), -1);
            Check.due("sums of set " + no, line.closed(no, 1), -1);
        }
        Check.due("of none", line.closed(0, 0), -1);
        Check.due("sums of none", line.closed(0, 1), -1);
        Check.due("one who is not there", line.closed(4, 0), -1);
        Check.due("one on a way", busy().closed(1, 0), -1);
        Check.due("sums of one on a way", busy().closed(1, 1), -1);
        Check.same("closed", before, line);
        Says.promise(16, "ALIKE.");
        Check.due("without a land", new TurningRoads().alike(), 1);
        Check.due("one way", Check.of("way 0 1 1").alike(), 1);
        Check.due("two ways", Check.of("way 0 1 1;way 1 0 1").alike(), 2);
        Check.due("with one on a way", busy().alike(), 1);
    }

    private static void decoys() {
        Says.terms("DECOYS of a GOER: the least set of other GOERS (fewest, then least as a number; with him, sizes as above) "
            + "so that, all of them going, he can stand at his aim (wherever these stand then).");
        Check.due("one of a greater number rather than two",
            Check.of("way 1 0 1;way 1 2 1;way 3 2 1;way 4 0 1;way 4 3 1;goer 0 3 0;goer 1 1 0;goer 3 3 0;goer 4 4 0").decoys(0), 8);
        Check.due("the least as a number", Check.of("way 1 0 1;goer 0 1 0;goer 5 5 0;goer 1 1 0;goer 1 1 0").decoys(0), 4);
        String two = "way 1 0 1;way 1 2 1;way 3 2 1;goer 0 3 0;goer 1 1 0;goer 3 3 0";
        Check.due("two, away from their aims then", Check.of(two).decoys(0), 6);
        Check.due("three goers with 11 ways", Check.of(two + ";" + Told.times("way 5 6 1", 8, ";")).decoys(0), 6);
        Check.due("three goers with 12 ways", Check.of(two + ";" + Told.times("way 5 6 1", 9, ";")).decoys(0), -2);
        String three = "way 1 0 1;way 1 2 1;way 3 2 1;way 3 4 1;way 5 4 1;goer 0 5 0;goer 1 1 0;goer 7 7 0;goer 3 3 0;goer 5 5 0";
        Check.due("three", Check.of(three).decoys(0), 26);
        Check.due("four goers with 8 ways", Check.of(three + ";" + Told.times("way 6 7 1", 3, ";")).decoys(0), 26);
        Check.due("four goers with 9 ways", Check.of(three + ";" + Told.times("way 6 7 1", 4, ";")).decoys(0), -2);
        String one = "way 1 0 1;goer 0 1 0;goer 1 1 0;";
        Check.due("two goers with 14 ways", Check.of(one + Told.times("way 5 6 1", 13, ";")).decoys(0), 2);
        Check.due("all five others", Check.of("way 0 1 1;way 6 7 1;" + Told.times("goer 2 2 0", 5, ";") + ";goer 1 0 0").decoys(5), -2);
        Says.promise(17, "DECOYS, the set (0: he needs none)");
        Check.due("he is at his aim", Check.of("goer 0 0 0").decoys(0), 0);
        Check.due("he can by himself", Check.of(ROUND).decoys(0), 0);
        Check.due("goer 0 for goer 5", Check.of("way 1 0 1;goer 1 1 0;" + Told.times("goer 5 5 0", 4, ";") + ";goer 0 1 0").decoys(5), 1);
        Check.due("goer 5 for goer 0", Check.of("way 1 0 1;goer 0 1 0;" + Told.times("goer 5 5 0", 4, ";") + ";goer 1 1 0").decoys(0), 32);
        Says.promise(17, "-2: none does");
        Check.due("no other", Check.of("way 1 0 1;goer 0 1 0").decoys(0), -2);
        Check.due("nobody can help", Check.of("way 0 1 1;goer 2 3 0;goer 0 1 0").decoys(0), -2);
        Says.promise(17, "NONE without these (a GOER that stands; others that are on a WAY are no decoys)");
        TurningRoads busy = Check.of("way 1 0 9;way 1 3 9;goer 0 1 0;goer 1 3 0;goer 4 4 0", "take way");
        Check.due("goer 1 could", busy.decoys(0), 2);
        busy.tick(0, 1);
        List<Integer> before = Look.at(busy);
        Check.due("he is on a way now", busy.decoys(0), -2);
        Check.due("one on a way", busy.decoys(1), -1);
        Check.due("one who stands", busy.decoys(2), 0);
        Check.due("goer 3", busy.decoys(3), -1);
        for (int no : FAR_OUT) {
            Check.due("goer " + no, busy.decoys(no), -1);
        }
        Check.same("decoys", before, busy);
    }

    private static void posts() {
        Says.terms("POST of a GOER (9 WAYS at most): the fewest GOINGS of him alone by which he stands at each of some told PLACES "
            + "at least once (where he stands now, too) and at last where he stands now (or anywhere).");
        String line = "way 0 1 1;way 1 2 1;way 2 3 1;way 3 4 1;way 4 5 1;way 5 6 1;way 6 7 1;goer 0 1 0;";
        Check.due("7 ways", Check.of(line + "goer 0 0 0").post(0, 255, true), 14);
        Check.due("8 ways", Check.of(line + "way 7 0 1").post(0, 255, true), 8);
        Check.due("9 ways", Check.of(line + "way 7 0 1;way 7 0 1").post(0, 255, true), 8);
        Check.due("10 ways", Check.of(line + "way 7 0 1;way 7 0 1;way 7 0 1").post(0, 255, true), -1);
        Check.due("10 ways for nothing", Check.of(line + "way 7 0 1;way 7 0 1;way 7 0 1").post(0, 0, false), -1);
        TurningRoads round = Check.of(ROUND);
        Check.due("where he stands", round.post(0, 1, false), 0);
        Check.due("where he stands, and back", round.post(0, 1, true), 0);
        Check.due("anywhere at last", round.post(0, 5, false), 2);
        Check.due("back at last", round.post(0, 5, true), 3);
        TurningRoads others = Check.of("way 1 0 1;goer 0 1 0;goer 1 1 0");
        Check.due("he alone goes", others.post(0, 2, false), -2);
        TurningRoads far = Check.of("way 7 5 1;way 5 0 1;way 0 7 1;way 7 6 1;goer 7 0 0;goer 5 0 0");
        Check.due("from 7 to 0", far.post(0, 1, false), 2);
        Check.due("from 7 to 0 and back", far.post(0, 1, true), 3);
        Check.due("from 7 all round", far.post(0, 225, true), 5);
        Check.due("from 7 all round, and anywhere", far.post(0, 225, false), 4);
        Check.due("from 5 to 0", far.post(1, 1, false), 1);
        Check.due("from 5 to 0 and back", far.post(1, 1, true), 2);
        Says.promise(18, "POST over PLACES (as bits, 0 to 255), back or not");
        Check.due("over none", round.post(0, 0, false), 0);
        Check.due("over none and back", round.post(0, 0, true), 0);
        Check.due("over all", Check.of(line + "way 7 0 1").post(0, 255, false), 7);
        Check.due("over the last place", Check.of(line + "goer 0 0 0").post(0, 128, false), 7);
        Says.promise(18, "-2: he can't");
        Check.due("all of a round of three", round.post(0, 255, true), -2);
        Check.due("one more place", round.post(0, 8, false), -2);
        Check.due("by a way on which someone is", Check.of("way 0 1 9;goer 0 1 0", "take 1").post(0, 4, true), -2);
        Says.promise(18, "NONE without these.");
        TurningRoads busy = busy();
        List<Integer> before = Look.at(busy);
        Check.due("places -1", busy.post(1, -1, false), -1);
        Check.due("places 256", busy.post(1, 256, false), -1);
        Check.due("one on a way", busy.post(0, 1, false), -1);
        Check.due("one who stands", busy.post(1, 3, true), 2);
        Check.due("goer 3", busy.post(3, 1, false), -1);
        for (int no : FAR_OUT) {
            Check.due("places " + no, busy.post(1, no, true), -1);
            Check.due("goer " + no, busy.post(no, 1, true), -1);
        }
        Check.same("post", before, busy);
    }

    private static void longest() {
        Says.terms("LONGEST: a GOER takes, of WAYS that lead away from his PLACE, that with the least LAST (of several the least): "
            + "n steps of him alone (he stops where none leads away).");
        TurningRoads star = Check.of("way 0 1 1;way 0 2 1;way 0 3 1;goer 0 5 0");
        Check.due("of several the least", star.longest(0, 1, 0), 1);
        star.go(0, 0);
        star.go(0, 0);
        Check.due("what was not taken", star.longest(0, 1, 0), 2);
        star.go(0, 2);
        star.go(0, 2);
        star.go(0, 1);
        star.go(0, 1);
        int[] places = {0, 1, 0, 3, 0, 2, 0, 1};
        for (int n = 0; n < places.length; n++) {
            Check.due("behind " + n, star.longest(0, n, 0), places[n]);
        }
        TurningRoads stops = Check.of("way 0 1 1;way 2 1 1;goer 0 5 0");
        stops.turn(1);
        Check.due("he stops", stops.longest(0, 9, 2), 0);
        TurningRoads most = Check.of(Told.times("way 1 0 1", 14, ";") + ";goer 0 1 0;goer 1 0 0");
        Check.due("he stops, with 14 ways", most.longest(0, 9, 2), 0);
        Check.due("he covers none of them", most.covers(0), -2);
        Check.due("nor comes to a round", most.settles(0, 1), -2);
        Check.due("the other doesn't stop", most.longest(1, 9, 2), 9);
        Says.promise(19, "LONGEST for n steps (0 to 2000) what 0: his PLACE then, 1: DIRECTIONS then, "
            + "2: how many steps he took (nothing changes)");
        TurningRoads one = Check.of("way 0 1 1;goer 0 0 0");
        int[] steps = {0, 1, 2, 1999, 2000};
        List<Integer> before = Look.at(one);
        for (int n : steps) {
            Check.due("place behind " + n, one.longest(0, n, 0), n % 2);
            Check.due("directions behind " + n, one.longest(0, n, 1), n % 2);
            Check.due("steps of " + n, one.longest(0, n, 2), n);
        }
        Check.same("longest", before, one);
        TurningRoads none = Check.of("way 1 0 1;goer 0 0 0");
        none.turn(0);
        Check.due("he stops at once", none.longest(0, 2000, 2), 0);
        Check.due("where he stands", none.longest(0, 2000, 0), 0);
        Says.promise(19, "NONE without these (a GOER that stands, no one on a WAY)");
        Check.due("n -1", one.longest(0, -1, 0), -1);
        Check.due("n 2001", one.longest(0, 2001, 0), -1);
        Check.due("what -1", one.longest(0, 1, -1), -1);
        Check.due("what 3", one.longest(0, 1, 3), -1);
        Check.due("goer 1", one.longest(1, 1, 0), -1);
        for (int no : FAR_OUT) {
            Check.due("n " + no, one.longest(0, no, 0), -1);
            Check.due("what " + no, one.longest(0, 1, no), -1);
            Check.due("goer " + no, one.longest(no, 1, 0), -1);
        }
        TurningRoads busy = busy();
        Check.due("he is on a way", busy.longest(0, 1, 0), -1);
        Check.due("another is on a way", busy.longest(1, 1, 0), -1);
        Check.due("another is on a way, no step", busy.longest(2, 0, 0), -1);
        busy.tick(0, 9);
        Check.due("nobody is now", busy.longest(2, 0, 0), 7);
    }

    /** A STATE, with LASTS in a bad order, from which it takes long till each WAY was gone by. */
    private static TurningRoads longCover() {
        int[] from = {1, 3, 5, 1, 0, 6, 1, 2, 4, 4, 1, 6, 4, 4};
        int[] to = {6, 0, 6, 6, 3, 5, 6, 0, 3, 5, 3, 5, 3, 5};
        int[] order = {11, 12, 7, 3, 13, 6, 4, 9, 1, 10, 2, 5, 8, 0};
        StringBuilder b = new StringBuilder();
        for (int way = 0; way < 14; way++) {
            b.append("way ").append(from[way]).append(' ').append(to[way]).append(" 1;");
        }
        TurningRoads roads = Check.of(b + "goer 0 0 0;goer 1 1 0;goer 2 2 0;goer 3 3 0;goer 4 4 0;goer 5 5 0");
        for (int way : order) {
            // there and back by him who stands at one of its ends
            roads.turn(from[way] < 6 ? 0 : 1 << way);
            int goer = from[way] < 6 ? from[way] : to[way];
            roads.go(goer, way);
            roads.go(goer, way);
        }
        roads.turn(9860);
        for (int i = 0; i < 8; i++) {
            roads.go(0, Integer.numberOfTrailingZeros(roads.longest(0, 1, 1) ^ roads.count(3)));
        }
        return roads;
    }

    private static void covers() {
        Says.terms("COVERS: how many steps until all WAYS were gone by (from now on).");
        TurningRoads two = Check.of("way 0 1 1;way 0 1 1;goer 0 0 0");
        Check.due("there, back and there", two.covers(0), 3);
        two.go(0, 0);
        two.go(0, 0);
        Check.due("what was gone by counts not", two.covers(0), 3);
        two.go(0, 1);
        Check.due("from the other end", two.covers(0), 2);
        Says.promise(20, "COVERS; -2: not in 2000, or he stops ahead");
        Check.due("no ways", Check.of("goer 0 1 0").covers(0), 0);
        Check.due("one way", Check.of("way 0 1 1;goer 0 1 0").covers(0), 1);
        Check.due("long, but in 2000", longCover().covers(0), 421);
        // none that takes longer is known, but for WAYS that are never come to
        Check.due("never", Check.of("way 0 1 1;way 2 3 1;goer 0 1 0").covers(0), -2);
        Check.due("he stops at once", Check.of("way 1 0 1;goer 0 1 0").covers(0), -2);
        Says.promise(20, "NONE as with longest");
        TurningRoads busy = busy();
        List<Integer> before = Look.at(busy);
        for (int goer = 0; goer <= 3; goer++) {
            Check.due("with one on a way, goer " + goer, busy.covers(goer), -1);
        }
        Check.same("covers", before, busy);
        Check.due("goer 1", two.covers(1), -1);
        for (int no : FAR_OUT) {
            Check.due("goer " + no, two.covers(no), -1);
        }
    }

    private static void settles() {
        Says.terms("SETTLES: the fewest steps behind which a SITUATION (his PLACE, DIRECTIONS, and by which order the WAYS have their LASTS, "
            + "alike ones alike) comes again later: how many these are, and how many steps the round has (2000 steps looked at in all; else none).");
        TurningRoads roads = Check.of(LONG_ROUND);
        int[] row = new int[11];
        TurningRoads ahead = Check.of(LONG_ROUND);
        for (int i = 0; i < row.length; i++) {
            row[i] = Integer.numberOfTrailingZeros(ahead.longest(0, i, 1) ^ ahead.longest(0, i + 1, 1));
        }
        for (int i = 0; i < row.length; i++) {
            Check.due("ahead of the round " + (11 - i) + ", 2000 steps of it", roads.settles(0, 0), -2);
            Check.due("the round of 2000 steps", roads.settles(0, 1), -2);
            Check.due("he goes", roads.go(0, row[i]) >= 0 ? 1 : 0, 1);
        }
        Check.due("none ahead of 2000 steps", roads.settles(0, 0), 0);
        Check.due("the round of 2000", roads.settles(0, 1), 2000);
        TurningRoads two = Check.of("way 0 1 1;way 0 1 1;goer 0 1 0");
        Check.due("alike ones alike: both not gone by is not the order it comes to", two.settles(0, 0), 1);
        Check.due("four steps", two.settles(0, 1), 4);
        two.go(0, 0);
        Check.due("one not gone by has the least LAST", two.settles(0, 0), 0);
        for (int ways = 2; ways <= 14; ways++) {
            TurningRoads twins = Check.of(Told.times("way 0 1 1", ways, ";") + ";goer 0 1 0");
            Check.due("he goes one step", twins.longest(0, 1, 0), 1);
            for (int again = 0; again < 2; again++) {
                Check.due("ahead with ways " + ways, twins.settles(0, 0), 2 * ways - 3);
                Check.due("a round with ways " + ways, twins.settles(0, 1), 2 * ways);
                Check.due("covers with ways " + ways, twins.covers(0), 2 * ways - 1);
            }
        }
        TurningRoads far = Check.of("way 7 3 1;way 1 4 1;goer 7 7 0");
        Check.due("7, 3, 7, 3: ahead", far.settles(0, 0), 1);
        Check.due("7, 3, 7, 3: round", far.settles(0, 1), 2);
        TurningRoads many = Check.of("way 3 5 1;way 4 5 1;way 0 3 1;way 4 0 1;way 3 2 1;way 2 3 1;way 5 4 1;way 5 4 1;way 1 5 1;"
            + "way 1 5 1;way 3 2 1;goer 0 0 0");
        Check.due("orders that are nearly alike: ahead", many.settles(0, 0), 12);
        Check.due("orders that are nearly alike: round", many.settles(0, 1), 42);
        Says.promise(21, "SETTLES what 0: steps ahead of the round, 1: steps of the round");
        TurningRoads one = Check.of("way 0 1 1;goer 0 1 0;goer 5 5 0");
        Check.due("ahead", one.settles(0, 0), 0);
        Check.due("round", one.settles(0, 1), 2);
        Says.promise(21, "-2: none (or he stops)");
        Check.due("he stops", one.settles(1, 0), -2);
        Check.due("he stops, the round", one.settles(1, 1), -2);
        Check.due("none in 2000", Check.of(LONG_ROUND).settles(0, 1), -2);
        Says.promise(21, "NONE as with longest");
        Check.due("what -1", one.settles(0, -1), -1);
        Check.due("what 2", one.settles(0, 2), -1);
        Check.due("goer 2", one.settles(2, 0), -1);
        for (int no : FAR_OUT) {
            Check.due("what " + no, one.settles(0, no), -1);
            Check.due("goer " + no, one.settles(no, 0), -1);
        }
        TurningRoads busy = busy();
        for (int goer = 0; goer <= 3; goer++) {
            Check.due("with one on a way, goer " + goer, busy.settles(goer, 0), -1);
        }
    }

    private static void rows() {
        Says.terms("A ROW of GOINGS: GOERS with WAYS, 40 at most.");
        TurningRoads roads = Check.of(ROUND + ";goer 1 0 0");
        for (int i = 1; i <= 40; i++) {
            Check.due("row " + i, roads.row(0, 0), i);
        }
        Check.due("41", roads.row(0, 0), -2);
        Check.due("40", roads.count(7), 40);
        Says.promise(22, "A GOING comes to the end of the ROW (goer NONE: the ROW is empty then): how many it has");
        Check.due("emptied", roads.row(-1, 0), 0);
        Check.due("none", roads.count(7), 0);
        Check.due("emptied again, with any way", roads.row(-1, 99), 0);
        Check.due("one", roads.row(0, 0), 1);
        Check.due("one that can't be done", roads.row(0, 0) + roads.row(1, 2), 5);
        Check.due("at the end", roads.done(), 2);
        Says.promise(22, "-2, and nothing happens, without a GOER, a WAY, or if there are 40");
        List<Integer> before = Look.at(roads);
        int[][] wrong = {{-2, 0}, {2, 0}, {0, -1}, {0, 3}, {6, 14}, {0, 16}, {2, -1}};
        for (int[] no : wrong) {
            Check.due("row " + no[0] + " " + no[1], roads.row(no[0], no[1]), -2);
        }
        for (int no : FAR_OUT) {
            Check.due("goer " + no, no == -1 ? -2 : roads.row(no, 0), -2);
            Check.due("way " + no, roads.row(0, no), -2);
        }
        Check.same("row", before, roads);
        TurningRoads full = Check.of(ROUND);
        for (int i = 0; i < 40; i++) {
            full.row(0, 0);
        }
        List<Integer> forty = Look.at(full);
        Check.due("there are 40", full.row(0, 1), -2);
        Check.same("row", forty, full);
        Check.due("the last of numbers", Check.of(Told.times("way 0 1 1", 14, ";") + ";" + Told.times("goer 0 1 0", 6, ";")).row(5, 13), 1);
    }

    private static void done() {
        Says.terms("DONE: how many of them, one behind the other, can be done from the STATE as it is, till one can't.");
        TurningRoads roads = Check.of(ROUND + ";goer 1 0 0");
        Check.due("of none", roads.done(), 0);
        int[][] goings = {{0, 0}, {0, 1}, {1, 1}, {0, 2}};
        int[] due = {1, 2, 2, 2};
        for (int i = 0; i < goings.length; i++) {
            roads.row(goings[i][0], goings[i][1]);
            Check.due("of " + (i + 1), roads.done(), due[i]);
        }
        roads.go(0, 0);
        Check.due("as it is now", roads.done(), 1);
        TurningRoads first = Check.of(ROUND);
        first.row(0, 1);
        Check.due("the first can't", first.done(), 0);
        Says.promise(23, "DONE (GOERS that are on a WAY can't go, nor anyone by a WAY on which someone is).");
        int[][] withOne = {{0, 1}, {0, 0}, {1, 0}, {1, 1}};
        int[] dueThen = {0, 0, 0, 1};
        for (int i = 0; i < withOne.length; i++) {
            TurningRoads busy = busy();
            busy.row(withOne[i][0], withOne[i][1]);
            List<Integer> before = Look.at(busy);
            Check.due("goer " + withOne[i][0] + " by " + withOne[i][1], busy.done(), dueThen[i]);
            Check.same("done", before, busy);
        }
        TurningRoads full = Check.of(ROUND);
        for (int i = 0; i < 40; i++) {
            full.row(0, 0);
        }
        Check.due("all of 40", full.done(), 40);
    }

    private static void free() {
        Says.terms("FREE of the k-th and the next one: whether, what is ahead of them being done, both can be done in this order and the other one, "
            + "and the STATE is alike then (LAST not looked at).");
        TurningRoads roads = Check.of("way 0 1 1;way 1 2 1;way 0 1 1;goer 0 2 0;goer 1 0 0;goer 0 0 0");
        int[][] goings = {{0, 0}, {1, 1}, {1, 1}, {2, 2}, {0, 1}, {0, 1}, {0, 0}, {2, 0}, {0, 2}};
        int[] due = {1, 1, 1, 1, 1, 0, 0, 0};
        for (int[] going : goings) {
            roads.row(going[0], going[1]);
        }
        Check.due("done", roads.done(), 7);
        for (int k = 0; k < due.length; k++) {
            Check.due("free " + k, roads.free(k), due[k]);
        }
        TurningRoads cross = Check.of("way 0 1 1;way 0 1 1;goer 0 1 0;goer 0 1 0");
        cross.turn(2);
        cross.row(0, 0);
        cross.row(1, 0);
        Check.due("the second can't", cross.free(0), 0);
        TurningRoads unlike = Check.of("way 0 1 1;way 1 0 1;way 0 1 1;goer 0 1 0;goer 0 1 0;goer 1 0 0");
        unlike.row(0, 0);
        unlike.row(2, 0);
        Check.due("the second can't be first", unlike.free(0), 0);
        TurningRoads other = Check.of("way 0 1 1;goer 0 1 0;goer 1 0 0");
        other.row(1, 0);
        other.row(0, 0);
        Check.due("in the other order alone", other.free(0), 0);
        Says.promise(24, "FREE (k from 0 on): 1 if so, else 0");
        TurningRoads two = Check.of("way 0 1 1;way 0 1 1;goer 0 1 0;goer 0 1 0");
        two.row(0, 0);
        Check.due("of one", two.free(0), -1);
        two.row(1, 1);
        Check.due("by unlike ways", two.free(0), 1);
        two.row(0, 1);
        Check.due("the next two", two.free(1), 0);
        TurningRoads most = Check.of(Told.times("way 0 1 1", 14, ";") + ";" + Told.times("goer 0 1 0", 6, ";"));
        for (int i = 0; i < 6; i++) {
            most.row(i, 13 - i);
        }
        most.row(0, 13);
        most.row(5, 13);
        Check.due("all by unlike ways", most.done(), 7);
        for (int k = 0; k < 5; k++) {
            Check.due("free " + k + " of six goers", most.free(k), 1);
        }
        Check.due("free 5 of six goers", most.free(5), 1);
        Check.due("free 6 of six goers", most.free(6), 0);
        Says.promise(24, "NONE without both");
        List<Integer> before = Look.at(two);
        Check.due("k -1", two.free(-1), -1);
        Check.due("the last one", two.free(2), -1);
        Check.due("behind the last one", two.free(3), -1);
        for (int no : FAR_OUT) {
            Check.due("k " + no, two.free(no), -1);
        }
        Check.same("free", before, two);
        TurningRoads full = Check.of(ROUND);
        for (int i = 0; i < 40; i++) {
            full.row(0, 0);
        }
        Check.due("38 of 40", full.free(38), 1);
        Check.due("39 of 40", full.free(39), -1);
        Check.due("40 of 40", full.free(40), -1);
        Check.due("of none", Check.of(ROUND).free(0), -1);
    }

    static void run() {
        sizes();
        fromTheStateAsItIs();
        askedAgain();
        directionsComeTo();
        fewestAnswers();
        stepAnswers();
        comesAnswers();
        closedAnswers();
        decoys();
        posts();
        longest();
        covers();
        settles();
        rows();
        done();
        free();
    }
}
