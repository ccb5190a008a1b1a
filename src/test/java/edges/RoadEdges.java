import java.util.List;

/** What the document says of the edges of WAYS, GOERS, PLACES, goings by hand, x, counts and IMAGES: 6 to 11, 29, 31 to 33. */
final class RoadEdges {
    private static final String ROUND = "way 0 1 5;way 1 2 7;way 2 0 3;goer 0 2 10;goer 1 1 0";
    private static final int[] FAR_OUT = {Integer.MIN_VALUE, Integer.MIN_VALUE + 1, -256, -2, 256, Integer.MAX_VALUE};

    private RoadEdges() {
    }

    /** GOER 0 is on WAY 0 for a minute, GOER 1 stands at the PLACE it leads from; nobody is on WAY 1. */
    private static TurningRoads busy() {
        TurningRoads roads = Check.of("way 0 1 9;way 0 2 1;goer 0 1 0;goer 0 1 50", "take 9 - way");
        roads.tick(0, 2);
        return roads;
    }

    private static String line(int ways) {
        StringBuilder b = new StringBuilder();
        for (int i = 0; i < ways; i++) {
            b.append("way ").append(i % 7).append(' ').append(i % 7 + 1).append(" 1;");
        }
        return b.toString();
    }

    private static void waysLead() {
        Says.terms("A WAY leads from one PLACE to the other, as told at first.");
        TurningRoads roads = Check.of("way 7 0 1;way 0 7 1;goer 0 7 0;goer 7 0 0");
        Check.due("from", roads.way(0, 0), 7);
        Check.due("to", roads.way(0, 1), 0);
        Check.due("directions", roads.count(3), 0);
        Says.terms("To GO by a WAY: a GOER at the PLACE from which it leads comes to the other one; the WAY leads the other way then.");
        Check.due("not from the other one", roads.go(0, 0), -1);
        Check.due("he comes to the other one", roads.go(0, 1), 7);
        Check.due("from there now", roads.way(1, 0), 7);
        Check.due("to", roads.way(1, 1), 0);
        Check.due("the other way leads as it did", roads.way(0, 0), 7);
        Check.due("back by it", roads.go(0, 1), 0);
        Check.due("as told again", roads.way(1, 0), 0);
        Says.terms("DIRECTIONS: of each WAY a bit (2 to the its number): 1 if it leads otherwise than told.");
        TurningRoads all = Check.of(Told.times("way 0 1 1", 14, ";") + ";goer 0 1 0");
        for (int way = 0; way < 14; way++) {
            all.go(0, way);
            Check.due("by way " + way, all.count(3), 1 << way);
            all.go(0, way);
            Check.due("back by way " + way, all.count(3), 0);
        }
        Says.terms("GONE of a WAY: how often one went by it; LAST of it: the number of the GOING (from 1 on, of all) by which it was gone by last (0: not yet).");
        TurningRoads counted = Check.of("way 0 1 1;way 0 1 1;way 0 1 1;goer 0 1 0;goer 0 1 0");
        Check.due("gone at first", counted.way(0, 3), 0);
        Check.due("last at first", counted.way(0, 4), 0);
        counted.go(0, 0);
        Check.due("the first going", counted.way(0, 4), 1);
        counted.go(1, 1);
        counted.go(1, 1);
        Check.due("of all, the third", counted.way(1, 4), 3);
        Check.due("gone by twice", counted.way(1, 3), 2);
        Check.due("gone by once", counted.way(0, 3), 1);
        Check.due("not yet", counted.way(2, 4), 0);
        Check.due("never", counted.way(2, 3), 0);
        counted.turn(0);
        Check.due("turned by hand is not gone by", counted.way(0, 3) + 10 * counted.way(0, 4), 11);
    }

    private static void kept() {
        Says.terms("KEPT of a PLACE: WAYS that lead away from it less GOERS there. (It changes by no GOING.)");
        TurningRoads roads = Check.of("way 0 1 1;way 0 2 1;way 2 0 1;way 1 2 1;goer 0 3 0;goer 0 3 0;goer 2 3 0;goer 3 3 0");
        int[] due = {0, 1, 0, -1, 0, 0, 0, 0};
        int[][] goings = {{-1, -1}, {0, 0}, {0, 3}, {1, 1}, {2, 2}, {2, 2}, {0, 2}};
        for (int[] going : goings) {
            if (going[0] >= 0) {
                Check.due("go", roads.go(going[0], going[1]) >= 0 ? 1 : 0, 1);
            }
            for (int place = 0; place < 8; place++) {
                Check.due("kept of " + place + " behind " + going[0] + " " + going[1], roads.place(place, 3), due[place]);
            }
        }
        Check.due("six and no way", Check.of(Told.times("goer 5 1 0", 6, ";")).place(5, 3), -6);
        Check.due("14 ways and none", Check.of(Told.times("way 5 1 1", 14, ";")).place(5, 3), 14);
        Check.due("one on a way is not there", busy().place(0, 3), 1);
    }

    private static void reachAndFar() {
        Says.terms("REACH of a PLACE: PLACES one can come to from it (itself, too) by WAYS as they lead now, were none to turn.");
        TurningRoads roads = Check.of("way 0 1 1;way 1 2 1;way 3 2 1;goer 0 5 0");
        Check.due("of 0", roads.place(0, 4), 7);
        Check.due("of 2: itself", roads.place(2, 4), 4);
        Check.due("of 3", roads.place(3, 4), 12);
        Check.due("of 7: itself", roads.place(7, 4), 128);
        roads.go(0, 0);
        Check.due("of 0 now", roads.place(0, 4), 1);
        Check.due("of 1 now", roads.place(1, 4), 7);
        Check.due("by seven ways", Check.of(line(7) + "goer 0 0 0").place(0, 4), 255);
        Check.due("by a way on which someone is", busy().place(0, 4), 7);
        TurningRoads most = Check.of(line(14) + Told.times("goer 7 7 0", 6, ";"));
        Check.due("by 14 ways", most.place(0, 4), 255);
        Check.due("of the last place, by 14 ways", most.place(7, 4), 128);
        Check.due("far by 14 ways", most.far(0, 7), 7);
        Check.due("none by 14 ways", most.far(7, 0), -2);
        Check.due("six at the last place", most.place(7, 2), 6);
        Says.terms("FAR of two PLACES: the fewest of these WAYS, so.");
        TurningRoads far = Check.of(line(7) + "way 0 5 60");
        Check.due("to itself", far.far(3, 3), 0);
        Check.due("one", far.far(3, 4), 1);
        Check.due("the fewest", far.far(0, 6), 2);
        Check.due("seven", Check.of(line(7) + "goer 0 0 0").far(0, 7), 7);
        Check.due("none", far.far(7, 0), -2);
    }

    private static void tellsOfWays() {
        Says.promise(6, "Of a WAY what 0: the PLACE it leads from now, 1: to, 2: minutes, 3: GONE, 4: LAST, 5: GOERS on it.");
        TurningRoads roads = Check.of("way 0 1 5;way 2 3 60;goer 2 3 0;goer 0 1 0;goer 0 1 0", "take 1");
        roads.go(0, 1);
        roads.tick(0, 1);
        int[][] due = {{0, 1, 5, 0, 0, 2}, {3, 2, 60, 1, 1, 0}};
        for (int way = 0; way < 2; way++) {
            for (int what = 0; what < 6; what++) {
                Check.due("way " + way + " " + what, roads.way(way, what), due[way][what]);
            }
        }
        roads.tick(0, 5);
        Check.due("nobody on it then", roads.way(0, 5), 0);
        TurningRoads crowd = Check.of("way 0 1 60;" + Told.times("goer 0 1 0", 6, ";"), "take 1");
        crowd.tick(0, 1);
        Check.due("six on it", crowd.way(0, 5), 6);
        Says.promise(6, "NONE without these.");
        for (int what = 0; what < 6; what++) {
            Check.due("way -1 " + what, roads.way(-1, what), -1);
            Check.due("way 2 " + what, roads.way(2, what), -1);
            Check.due("way 14 " + what, roads.way(14, what), -1);
        }
        Check.due("what -1", roads.way(0, -1), -1);
        Check.due("what 6", roads.way(0, 6), -1);
        for (int no : FAR_OUT) {
            Check.due("way " + no, roads.way(no, 0), -1);
            Check.due("what " + no, roads.way(0, no), -1);
        }
    }

    private static void tellsOfGoers() {
        Says.promise(7, "Of a GOER what 0: his PLACE (8: on a WAY), 1: aim, 2: minute he leaves at, 3: the WAY he is on (NONE), "
            + "4: minutes on it (0 without), 5: HOME (NONE: not yet), 6: the PLACE he goes to (NONE: on no WAY).");
        TurningRoads roads = Check.of("way 7 0 2;goer 7 0 1;goer 0 0 999;goer 3 4 0", "take 1");
        int[][] standing = {{7, 0, 1, -1, 0, -1, -1}, {0, 0, 999, -1, 0, 0, -1}, {3, 4, 0, -1, 0, -1, -1}};
        for (int goer = 0; goer < 3; goer++) {
            for (int what = 0; what < 7; what++) {
                Check.due("goer " + goer + " " + what, roads.goer(goer, what), standing[goer][what]);
            }
        }
        roads.tick(0, 2);
        int[][] later = {{8, 0, 1, 0, 0, -1, 0}, {8, 0, 1, 0, 1, -1, 0}, {0, 0, 1, -1, 0, 4, -1}};
        for (int minute = 0; minute < 3; minute++) {
            for (int what = 0; what < 7; what++) {
                Check.due("minute " + minute + " on it, " + what, roads.goer(0, what), later[minute][what]);
            }
            roads.tick(0, 1);
        }
        Says.promise(7, "-2 without these.");
        for (int what = 0; what < 7; what++) {
            Check.due("goer -1 " + what, roads.goer(-1, what), -2);
            Check.due("goer 3 " + what, roads.goer(3, what), -2);
            Check.due("goer 6 " + what, roads.goer(6, what), -2);
        }
        Check.due("what -1", roads.goer(0, -1), -2);
        Check.due("what 7", roads.goer(0, 7), -2);
        for (int no : FAR_OUT) {
            Check.due("goer " + no, roads.goer(no, 0), -2);
            Check.due("what " + no, roads.goer(0, no), -2);
        }
    }

    private static void tellsOfPlaces() {
        Says.promise(8, "Of a PLACE what 0: WAYS that lead away from it, 1: to it, 2: GOERS that stand there, 3: KEPT, 4: REACH (as bits).");
        TurningRoads roads = Check.of("way 0 7 5;way 0 7 5;way 7 0 5;goer 0 7 50;goer 0 7 0;goer 7 7 0", "take 2 - way");
        int[][] due = {{2, 1, 2, 0, 129}, {1, 2, 1, 0, 129}, {0, 0, 0, 0, 8}};
        int[] places = {0, 7, 3};
        for (int i = 0; i < 3; i++) {
            for (int what = 0; what < 5; what++) {
                Check.due("place " + places[i] + " " + what, roads.place(places[i], what), due[i][what]);
            }
        }
        roads.tick(0, 1);
        Check.due("who is on a way stands nowhere", roads.place(0, 2), 1);
        Check.due("a way with one on it leads as it did", roads.place(0, 0), 2);
        Says.promise(8, "-100 without these.");
        for (int what = 0; what < 5; what++) {
            Check.due("place -1 " + what, roads.place(-1, what), -100);
            Check.due("place 8 " + what, roads.place(8, what), -100);
        }
        Check.due("what -1", roads.place(0, -1), -100);
        Check.due("what 5", roads.place(0, 5), -100);
        for (int no : FAR_OUT) {
            Check.due("place " + no, roads.place(no, 0), -100);
            Check.due("what " + no, roads.place(0, no), -100);
        }
    }

    private static void tellsHowFar() {
        Says.promise(9, "FAR; -2: none");
        TurningRoads roads = Check.of(line(7) + "goer 0 7 0");
        Check.due("the farthest", roads.far(0, 7), 7);
        Check.due("itself", roads.far(7, 7), 0);
        Check.due("none", roads.far(7, 6), -2);
        Check.due("none in a land without ways", new TurningRoads().far(0, 1), -2);
        Check.due("itself in a land without ways", new TurningRoads().far(0, 0), 0);
        Says.promise(9, "NONE without these.");
        int[] wrong = {-1, 8};
        for (int no : wrong) {
            Check.due("from " + no, roads.far(no, 0), -1);
            Check.due("to " + no, roads.far(0, no), -1);
            Check.due("itself " + no, roads.far(no, no), -1);
        }
        for (int no : FAR_OUT) {
            Check.due("from " + no, roads.far(no, 0), -1);
            Check.due("to " + no, roads.far(0, no), -1);
        }
    }

    private static void goes() {
        Says.promise(10, "A GOER that stands GOES by a WAY (in no time): his PLACE");
        TurningRoads roads = Check.of(ROUND, "take 1");
        roads.tick(0, 3);
        Check.due("place 1", roads.go(0, 0), 1);
        Check.due("he stands there", roads.goer(0, 0), 1);
        Check.due("in no time", roads.count(5), 3);
        Check.due("place 0", roads.go(0, 0), 0);
        Check.due("one going each", roads.count(4), 2);
        Check.due("ahead of his minute to leave, and one at his aim", roads.go(1, 1), 2);
        Says.promise(10, "NONE, and nothing happens, without these");
        TurningRoads lived = Told.lived();
        List<Integer> before = Look.at(lived);
        int[][] wrong = {{-1, 1}, {4, 1}, {6, 1}, {3, -1}, {3, 3}, {3, 14}, {3, 32}, {3, 33}, {1, 0}, {2, 0}, {-1, -1}};
        for (int[] no : wrong) {
            Check.due("go " + no[0] + " " + no[1], lived.go(no[0], no[1]), -1);
        }
        for (int no : FAR_OUT) {
            Check.due("goer " + no, lived.go(no, 1), -1);
            Check.due("way " + no, lived.go(3, no), -1);
        }
        Check.same("go", before, lived);
        Says.promise(10, "if it doesn't lead away from his PLACE, or someone is on it");
        TurningRoads there = Check.of(ROUND);
        List<Integer> first = Look.at(there);
        Check.due("it leads to his place", there.go(0, 2), -1);
        Check.due("it leads elsewhere", there.go(0, 1), -1);
        Check.same("go", first, there);
        TurningRoads busy = busy();
        List<Integer> withOne = Look.at(busy);
        Check.due("someone is on it", busy.go(1, 0), -1);
        Check.due("he is on it himself", busy.go(0, 0), -1);
        Check.same("go", withOne, busy);
        Check.due("nobody is on this", busy.go(1, 1), 2);
        busy.tick(0, 8);
        Check.due("behind him it leads the other way", busy.go(0, 0), 0);
    }

    private static void turns() {
        Says.promise(11, "DIRECTIONS become so, by hand: what they were");
        TurningRoads roads = Check.of(ROUND);
        Check.due("to the most", roads.turn(7), 0);
        Check.due("to the least", roads.turn(0), 7);
        Check.due("to what they are", roads.turn(0), 0);
        Check.due("to 5", roads.turn(5), 0);
        Check.due("way 0", roads.way(0, 0), 1);
        Check.due("way 1", roads.way(1, 0), 1);
        Check.due("way 2", roads.way(2, 0), 0);
        Check.due("no going", roads.count(4), 0);
        Check.due("of 14 ways", Check.of(Told.times("way 0 1 1", 14, ";")).turn(16383), 0);
        Says.promise(11, "NONE, and nothing happens, for others (0 to one less than 2 to the WAYS), or if someone is on a WAY.");
        List<Integer> before = Look.at(roads);
        Check.due("below", roads.turn(-1), -1);
        Check.due("above", roads.turn(8), -1);
        for (int no : FAR_OUT) {
            Check.due("turn " + no, roads.turn(no), -1);
        }
        Check.same("turn", before, roads);
        Check.due("16384 of 14 ways", Check.of(Told.times("way 0 1 1", 14, ";")).turn(16384), -1);
        Check.due("1 of none", new TurningRoads().turn(1), -1);
        Check.due("0 of none", new TurningRoads().turn(0), 0);
        TurningRoads busy = busy();
        List<Integer> withOne = Look.at(busy);
        for (int directions = 0; directions < 4; directions++) {
            Check.due("someone is on a way: " + directions, busy.turn(directions), -1);
        }
        Check.same("turn", withOne, busy);
        busy.tick(0, 8);
        Check.due("nobody is now", busy.turn(3), 1);
    }

    private static void seeds() {
        Says.promise(29, "x becomes a number: what it was");
        TurningRoads roads = Told.lived();
        Check.due("the most", roads.seed(2147483647), 77);
        Check.due("the least", roads.seed(0), 2147483647);
        Check.due("x", roads.count(8), 0);
        Check.due("at first", new TurningRoads().seed(1), 0);
        Says.promise(29, "NONE, and nothing happens, below 0");
        roads.seed(3);
        List<Integer> before = Look.at(roads);
        Check.due("-1", roads.seed(-1), -1);
        Check.due("the lowest", roads.seed(Integer.MIN_VALUE), -1);
        Check.same("seed", before, roads);
    }

    private static void counts() {
        Says.promise(31, "What 0: WAYS, 1: GOERS, 2: RULES, 3: DIRECTIONS, 4: GOINGS, 5: CLOCK, 6: MET, "
            + "7: how many the ROW has, 8: x, 9: bytes of the TAPE.");
        int[] due = {3, 4, 1, 3, 4, 4, 1, 3, 77, 7};
        TurningRoads roads = Told.lived();
        for (int what = 0; what < due.length; what++) {
            Check.due("count " + what, roads.count(what), due[what]);
        }
        TurningRoads most = Check.of(Told.times("way 0 1 1", 14, ";") + ";" + Told.times("goer 0 1 0", 6, ";"),
            "take 1", "take 1", "take 1", "take 1", "take 1", "take 1");
        most.turn(16383);
        most.seed(2147483647);
        Check.tape(most, Told.blanks(400));
        int[] full = {14, 6, 6, 16383, 0, 0, 0, 0, 2147483647, 400};
        for (int what = 0; what < full.length; what++) {
            Check.due("the most, count " + what, most.count(what), full[what]);
        }
        Says.promise(31, "NONE for others.");
        Check.due("-1", roads.count(-1), -1);
        Check.due("10", roads.count(10), -1);
        for (int no : FAR_OUT) {
            Check.due("count " + no, roads.count(no), -1);
        }
    }

    private static void images() {
        Says.terms("IMAGES 0 to 3: all but the TAPE and the RULES, as it is; gone back to, it is as it was (these stay).");
        TurningRoads roads = Told.lived();
        List<Integer> before = Look.at(roads);
        for (int k = 0; k < 4; k++) {
            Check.due("image " + k, roads.image(k), 4);
        }
        Check.land(roads, "way 6 7 1;goer 6 7 0");
        roads.seed(5);
        Check.rule(roads, "take 2");
        Check.tape(roads, "seven..");
        for (int k = 0; k < 4; k++) {
            roads.tick(1, 1);
            Check.due("back " + k, roads.back(k), 4);
        }
        before.set(2, 2);
        Check.same("the rules stay, all else is as it was", before, roads);
        roads.end(3);
        roads.back(0);
        Check.due("the tape stays", roads.count(9), 3);
        roads.tick(0, 1);
        Check.due("it goes on as it did", roads.goer(1, 0), 1);
        Says.promise(32, "An IMAGE is made: CLOCK");
        TurningRoads made = Check.of(ROUND, "take 1");
        Check.due("at first", made.image(3), 0);
        made.tick(0, 1);
        Check.due("made anew", made.image(3), 1);
        made.tick(0, 1);
        Check.due("another", made.image(0), 2);
        Check.due("the one made anew", made.back(3), 1);
        Check.due("the other", made.back(0), 2);
        Check.due("without a land", new TurningRoads().image(0), 0);
        Says.promise(32, "NONE without it.");
        List<Integer> unmade = Look.at(made);
        Check.due("image -1", made.image(-1), -1);
        Check.due("image 4", made.image(4), -1);
        for (int no : FAR_OUT) {
            Check.due("image " + no, made.image(no), -1);
        }
        Check.same("image", unmade, made);
    }

    private static void goesBack() {
        Says.promise(33, "All is as in an IMAGE: CLOCK");
        TurningRoads roads = Check.of(ROUND, "take 1");
        roads.image(0);
        roads.go(0, 0);
        roads.row(0, 1);
        roads.seed(9);
        roads.tick(0, 11);
        List<Integer> later = Look.at(roads);
        roads.image(3);
        Check.due("to the first", roads.back(0), 0);
        int[] first = {3, 2, 1, 0, 0, 0, 0, 0, 0, 0};
        for (int what = 0; what < first.length; what++) {
            Check.due("count " + what, roads.count(what), first[what]);
        }
        Check.due("gone", roads.way(0, 3) + roads.way(0, 4), 0);
        Check.due("to the later one", roads.back(3), 11);
        Check.same("back", later, roads);
        roads.tick(0, 9);
        roads.row(0, 2);
        Check.due("again", roads.back(3), 11);
        Check.same("an image is not changed by what comes", later, roads);
        Says.promise(33, "NONE, and nothing happens, if it was never made, or without it.");
        Check.due("1 was never made", roads.back(1), -1);
        Check.due("2 was never made", roads.back(2), -1);
        Check.due("-1", roads.back(-1), -1);
        Check.due("4", roads.back(4), -1);
        for (int no : FAR_OUT) {
            Check.due("back " + no, roads.back(no), -1);
        }
        Check.same("back", later, roads);
        roads.image(4);
        Check.due("what was not made can't be gone back to", roads.back(4), -1);
    }

    static void run() {
        waysLead();
        kept();
        reachAndFar();
        tellsOfWays();
        tellsOfGoers();
        tellsOfPlaces();
        tellsHowFar();
        goes();
        turns();
        seeds();
        counts();
        images();
        goesBack();
    }
}
