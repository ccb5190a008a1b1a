/** Promises 6 to 11 and 29 to 33: what is told of WAYS, GOERS and PLACES, goings by hand, x, counts and images. */
public final class RoadPromisesTest {
    private static final String ROUND = "way 0 1 5;way 1 2 7;way 2 0 3;goer 0 2 10;goer 1 1 0";

    private static void ways() {
        TurningRoads roads = Check.of(ROUND);
        int[][] due = {{0, 1, 5, 0, 0, 0}, {1, 2, 7, 0, 0, 0}, {2, 0, 3, 0, 0, 0}};
        for (int way = 0; way < 3; way++) {
            for (int what = 0; what < 6; what++) {
                Check.due("way " + way + " " + what, roads.way(way, what), due[way][what]);
            }
        }
        int[] wrong = {-1, 3, Integer.MIN_VALUE, Integer.MAX_VALUE};
        for (int no : wrong) {
            Check.due("way " + no, roads.way(no, 0), -1);
        }
        Check.due("way what -1", roads.way(0, -1), -1);
        Check.due("way what 6", roads.way(0, 6), -1);
        Check.due("way what far", roads.way(0, Integer.MAX_VALUE), -1);
        Check.due("go", roads.go(0, 0), 1);
        Check.due("it leads from", roads.way(0, 0), 1);
        Check.due("to", roads.way(0, 1), 0);
        Check.due("gone", roads.way(0, 3), 1);
        Check.due("last", roads.way(0, 4), 1);
        Check.due("go on", roads.go(0, 1), 2);
        Check.due("last of the second", roads.way(1, 4), 2);
        Check.due("back by it", roads.go(0, 1), 1);
        Check.due("gone twice", roads.way(1, 3), 2);
        Check.due("last of it now", roads.way(1, 4), 3);
        Check.due("it leads as told", roads.way(1, 0), 1);
        Check.due("directions", roads.count(3), 1);
        Check.due("goings", roads.count(4), 3);
    }

    private static void goers() {
        TurningRoads roads = Check.of(ROUND, "take 1");
        int[][] due = {{0, 2, 10, -1, 0, -1, -1}, {1, 1, 0, -1, 0, 0, -1}};
        for (int goer = 0; goer < 2; goer++) {
            for (int what = 0; what < 7; what++) {
                Check.due("goer " + goer + " " + what, roads.goer(goer, what), due[goer][what]);
            }
        }
        int[] wrong = {-1, 2, 6, Integer.MIN_VALUE, Integer.MAX_VALUE};
        for (int no : wrong) {
            Check.due("goer " + no, roads.goer(no, 0), -2);
        }
        Check.due("goer what -1", roads.goer(0, -1), -2);
        Check.due("goer what 7", roads.goer(0, 7), -2);
        roads.tick(0, 13);
        int[] onHisWay = {8, 2, 10, 0, 2, -1, 1};
        for (int what = 0; what < 7; what++) {
            Check.due("goer on a way " + what, roads.goer(0, what), onHisWay[what]);
        }
        Check.due("goers on it", roads.way(0, 5), 1);
        Check.due("he stands nowhere", roads.place(0, 2), 0);
        Check.due("kept without him", roads.place(0, 3), 1);
    }

    private static void places() {
        TurningRoads roads = Check.of("way 0 1 5;way 1 2 7;way 2 0 3;way 0 1 2;way 3 0 1;goer 0 2 10;goer 0 1 0;goer 3 3 0");
        int[][] due = {{2, 2, 2, 0, 7}, {1, 2, 0, 1, 7}, {1, 1, 0, 1, 7}, {1, 0, 1, 0, 15}, {0, 0, 0, 0, 16}};
        for (int place = 0; place < 5; place++) {
            for (int what = 0; what < 5; what++) {
                Check.due("place " + place + " " + what, roads.place(place, what), due[place][what]);
            }
        }
        Check.due("place 7", roads.place(7, 4), 128);
        int[] wrong = {-1, 8, Integer.MIN_VALUE, Integer.MAX_VALUE};
        for (int no : wrong) {
            Check.due("place " + no, roads.place(no, 0), -100);
            Check.due("place what " + no, roads.place(0, no), -100);
        }
        Check.due("place what 5", roads.place(0, 5), -100);
        roads.go(0, 3);
        Check.due("kept at 0 by no going", roads.place(0, 3), 0);
        Check.due("kept at 1 by no going", roads.place(1, 3), 1);
        Check.due("out of 0 now", roads.place(0, 0), 1);
        Check.due("into 0 now", roads.place(0, 1), 3);
        Check.due("kept may be below 0", Check.of("way 1 0 1;goer 0 1 0;goer 0 1 0").place(0, 3), -2);
    }

    private static void distances() {
        TurningRoads roads = Check.of("way 0 1 1;way 1 2 1;way 2 3 1;way 3 4 1;way 4 5 1;way 5 6 1;way 6 7 1;goer 0 1 0");
        Check.due("far 0 7", roads.far(0, 7), 7);
        Check.due("far 7 0", roads.far(7, 0), -2);
        Check.due("far 4 4", roads.far(4, 4), 0);
        Check.due("far 2 6", roads.far(2, 6), 4);
        Check.due("reach of 0", roads.place(0, 4), 255);
        Check.due("reach of 5", roads.place(5, 4), 224);
        int[] wrong = {-1, 8, Integer.MIN_VALUE, Integer.MAX_VALUE};
        for (int no : wrong) {
            Check.due("far from " + no, roads.far(no, 0), -1);
            Check.due("far to " + no, roads.far(0, no), -1);
        }
        roads.turn(127);
        Check.due("far 7 0 turned", roads.far(7, 0), 7);
        Check.due("far 0 7 turned", roads.far(0, 7), -2);
        Check.due("the shorter", Check.of("way 0 1 60;way 1 2 60;way 0 2 60;way 2 3 60").far(0, 3), 2);
    }

    private static void goings() {
        TurningRoads roads = Check.of(ROUND, "take 1");
        int[][] cannot = {{-1, 0}, {2, 0}, {0, -1}, {0, 3}, {0, 1}, {0, 2}, {1, 0}, {Integer.MIN_VALUE, 0}, {0, Integer.MAX_VALUE}};
        for (int[] c : cannot) {
            Check.due("go " + c[0] + " " + c[1], roads.go(c[0], c[1]), -1);
        }
        Check.due("nothing happened", roads.count(4), 0);
        Check.due("directions", roads.count(3), 0);
        Check.due("go 0 0", roads.go(0, 0), 1);
        Check.due("home not yet", roads.goer(0, 5), -1);
        roads.tick(0, 4);
        Check.due("he stands till 10", roads.goer(0, 0), 1);
        Check.due("go to his aim", roads.go(0, 1), 2);
        Check.due("home by going: the clock as it is", roads.goer(0, 5), 4);
        Check.due("away again", roads.go(0, 1), 1);
        roads.tick(0, 1);
        Check.due("to his aim again", roads.go(0, 1), 2);
        Check.due("home is the first", roads.goer(0, 5), 4);
        Check.due("one who stood at his aim at first", roads.go(1, 0), 0);
        Check.due("has home 0", roads.goer(1, 5), 0);
        TurningRoads busy = Check.of("way 0 1 9;way 0 2 1;goer 0 1 0;goer 0 1 50", "take 9 - way");
        busy.tick(0, 1);
        Check.due("someone is on it", busy.go(1, 0), -1);
        Check.due("he is on a way", busy.go(0, 1), -1);
        Check.due("no one is on that", busy.go(1, 1), 2);
        Check.due("no turning with someone on a way", busy.turn(0), -1);
        Check.due("nothing happened to directions", busy.count(3), 2);
    }

    private static void turning() {
        TurningRoads roads = Check.of(ROUND);
        Check.due("turn 5", roads.turn(5), 0);
        Check.due("turn 2", roads.turn(2), 5);
        Check.due("from", roads.way(1, 0), 2);
        Check.due("from of 0", roads.way(0, 0), 0);
        int[] wrong = {-1, 8, Integer.MIN_VALUE, Integer.MAX_VALUE};
        for (int no : wrong) {
            Check.due("turn " + no, roads.turn(no), -1);
        }
        Check.due("directions", roads.count(3), 2);
        Check.due("no going", roads.count(4), 0);
        Check.due("not gone", roads.way(1, 3), 0);
        Check.due("turn 7", roads.turn(7), 2);
    }

    private static void seeds() {
        TurningRoads roads = new TurningRoads();
        Check.due("seed", roads.seed(5), 0);
        Check.due("seed most", roads.seed(2147483647), 5);
        Check.due("seed below 0", roads.seed(-1), -1);
        Check.due("seed far below 0", roads.seed(Integer.MIN_VALUE), -1);
        Check.due("x", roads.count(8), 2147483647);
        Check.due("seed 0", roads.seed(0), 2147483647);
    }

    private static void counts() {
        TurningRoads roads = Check.of(ROUND, "take 1", "take 2");
        Check.tape(roads, "abc");
        roads.seed(9);
        roads.go(0, 0);
        roads.go(0, 1);
        roads.row(1, 1);
        roads.tick(1, 6);
        int[] due = {3, 2, 2, 3, 2, 6, 0, 1, 9, 3};
        for (int what = 0; what < due.length; what++) {
            Check.due("count " + what, roads.count(what), due[what]);
        }
        int[] wrong = {-1, 10, Integer.MIN_VALUE, Integer.MAX_VALUE};
        for (int no : wrong) {
            Check.due("count " + no, roads.count(no), -1);
        }
    }

    private static void images() {
        TurningRoads roads = Check.of(ROUND, "take 1");
        int[] wrong = {-1, 4, Integer.MIN_VALUE, Integer.MAX_VALUE};
        for (int no : wrong) {
            Check.due("image " + no, roads.image(no), -1);
            Check.due("back " + no, roads.back(no), -1);
        }
        Check.due("back to none", roads.back(3), -1);
        Check.due("image at first", roads.image(0), 0);
        roads.go(0, 0);
        roads.row(0, 1);
        roads.seed(3);
        roads.tick(0, 12);
        Check.due("image of later", roads.image(3), 12);
        Check.due("he is on", roads.goer(0, 3), 0);
        roads.tick(0, 30);
        roads.seed(4);
        roads.row(-1, 0);
        Check.due("a rule more", Check.rule(roads, "take 2"), 1);
        Check.tape(roads, "tape");
        Check.due("back to later", roads.back(3), 12);
        Check.due("he is on again", roads.goer(0, 3), 0);
        Check.due("his minutes", roads.goer(0, 4), 1);
        Check.due("x", roads.count(8), 3);
        Check.due("the row", roads.count(7), 1);
        Check.due("goings", roads.count(4), 1);
        Check.due("the rules stay", roads.count(2), 2);
        Check.due("the tape stays", roads.count(9), 4);
        Check.due("back to the first", roads.back(0), 0);
        Check.due("his place", roads.goer(0, 0), 0);
        Check.due("x at first", roads.count(8), 0);
        Check.due("the row at first", roads.count(7), 0);
        Check.due("gone at first", roads.way(0, 3), 0);
        roads.go(0, 0);
        Check.due("an image isn't touched by what comes later", roads.back(0), 0);
        Check.due("his place again", roads.goer(0, 0), 0);
        Check.due("another land", Check.land(roads, "way 6 7 1"), 1);
        Check.due("an image made anew", roads.image(0), 0);
        Check.due("back to the old land", roads.back(3), 12);
        Check.due("its ways", roads.count(0), 3);
        Check.due("back to the new one", roads.back(0), 0);
        Check.due("its way", roads.way(0, 0), 6);
        Check.due("no goers", roads.count(1), 0);
    }

    public static void main(String[] args) {
        ways();
        goers();
        places();
        distances();
        goings();
        turning();
        seeds();
        counts();
        images();
        Check.finish();
    }
}
