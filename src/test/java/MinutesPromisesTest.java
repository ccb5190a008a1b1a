/** Promises 25 to 28 and 30, and what a RULE's words are: days by the minute. */
public final class MinutesPromisesTest {
    private static final int[] WRONG_RULES = {-1, 1, 6, Integer.MIN_VALUE, Integer.MAX_VALUE};

    private static void oneGoer() {
        TurningRoads roads = Check.of("way 0 1 2;goer 0 1 3", "take 1");
        Check.due("tick 3", roads.tick(0, 3), 3);
        Check.due("not yet", roads.goer(0, 0), 0);
        Check.due("tick", roads.tick(0, 1), 4);
        Check.due("on a way", roads.goer(0, 0), 8);
        Check.due("on which", roads.goer(0, 3), 0);
        Check.due("0 minutes", roads.goer(0, 4), 0);
        Check.due("heading", roads.goer(0, 6), 1);
        Check.due("not turned yet", roads.count(3), 0);
        Check.due("not gone yet", roads.way(0, 3), 0);
        Check.due("tick", roads.tick(0, 1), 5);
        Check.due("1 minute", roads.goer(0, 4), 1);
        Check.due("tick", roads.tick(0, 1), 6);
        Check.due("there", roads.goer(0, 0), 1);
        Check.due("on none", roads.goer(0, 3), -1);
        Check.due("no minutes", roads.goer(0, 4), 0);
        Check.due("heading nowhere", roads.goer(0, 6), -1);
        Check.due("home", roads.goer(0, 5), 6);
        Check.due("turned", roads.count(3), 1);
        Check.due("gone", roads.way(0, 3), 1);
        Check.due("last", roads.way(0, 4), 1);
        Check.due("goings", roads.count(4), 1);
        Check.due("he stays at his aim", roads.tick(0, 600), 606);
        Check.due("goings still", roads.count(4), 1);
        Check.due("home still", roads.goer(0, 5), 6);
    }

    private static void tickEdges() {
        TurningRoads roads = Check.of("way 0 1 2;goer 0 1 3", "take 1");
        for (int rule : WRONG_RULES) {
            Check.due("tick by " + rule, roads.tick(rule, 1), -1);
            Check.due("ahead by " + rule, roads.ahead(rule, 1, 0), -1);
            Check.due("home by " + rule, roads.home(rule, 1), -1);
            Check.due("days by " + rule, roads.days(rule, 1, 1, 0), -1);
        }
        int[] wrong = {-1, 601, Integer.MIN_VALUE, Integer.MAX_VALUE};
        for (int n : wrong) {
            Check.due("tick " + n, roads.tick(0, n), -1);
            Check.due("ahead " + n, roads.ahead(0, n, 0), -1);
            Check.due("finest " + n, roads.finest(n), -1);
            Check.due("home " + n, roads.home(0, n), -1);
            Check.due("days of " + n, roads.days(0, 1, n, 0), -1);
        }
        Check.due("tick 0", roads.tick(0, 0), -1);
        Check.due("nothing happened", roads.count(5), 0);
        for (int i = 1; i <= 166; i++) {
            Check.due("tick 600", roads.tick(0, 600), 600 * i);
        }
        Check.due("too late", roads.tick(0, 400), -1);
        Check.due("the last minute", roads.tick(0, 399), 99999);
        Check.due("none more", roads.tick(0, 1), -1);
        Check.due("ahead is still told", roads.ahead(0, 600, 0), 1);
        Check.due("the clock stays", roads.count(5), 99999);
    }

    /** Three on one WAY: 0 turns it, 1 is still on it when 2 comes from the other end. */
    private static void meetings() {
        TurningRoads roads = Check.of("way 0 1 3;goer 0 1 0;goer 0 1 1;goer 1 0 3", "take 1");
        int[] met = {0, 0, 0, 0, 1, 1, 1, 1, 1};
        int[] directions = {0, 0, 0, 0, 1, 0, 0, 1, 1};
        int[] goings = {0, 0, 0, 0, 1, 2, 2, 3, 3};
        int[] atAims = {0, 0, 0, 0, 1, 2, 2, 3, 3};
        for (int n = 0; n < met.length; n++) {
            Check.due("ahead met " + n, roads.ahead(0, n, 1), met[n]);
            Check.due("ahead directions " + n, roads.ahead(0, n, 3), directions[n]);
            Check.due("ahead goings " + n, roads.ahead(0, n, 2), goings[n]);
            Check.due("ahead at aims " + n, roads.ahead(0, n, 0), atAims[n]);
        }
        Check.due("ahead what 4", roads.ahead(0, 1, 4), -1);
        Check.due("ahead what -1", roads.ahead(0, 1, -1), -1);
        Check.due("nothing changes", roads.count(5), 0);
        Check.due("all home", roads.home(0, 600), 7);
        Check.due("all home in 7", roads.home(0, 7), 7);
        Check.due("not in 6", roads.home(0, 6), -2);
        Check.due("not in 0", roads.home(0, 0), -2);
        roads.tick(0, 5);
        Check.due("met", roads.count(6), 1);
        Check.due("met in what comes", roads.ahead(0, 9, 1), 0);
        Check.due("goings in what comes", roads.ahead(0, 9, 2), 1);
        Check.due("all home from now on", roads.home(0, 9), 2);
        Check.due("home of 0", roads.goer(0, 5), 4);
        Check.due("home of 1", roads.goer(1, 5), 5);
        roads.tick(0, 2);
        Check.due("home of 2", roads.goer(2, 5), 7);
        Check.due("last", roads.way(0, 4), 3);
        Check.due("they are", roads.home(0, 0), 0);
        TurningRoads longer = Check.of("way 0 1 9;goer 0 1 0;goer 0 1 2;goer 0 1 5;goer 1 0 0;goer 1 0 9", "take 1");
        // 0 comes at minute 10; 3 and 4 enter then: with 1 (till 11) and 2 (till 14); the WAY has turned at 10, 12, 15
        Check.due("each two, once a minute", longer.ahead(0, 11, 1), 8);
        Check.due("behind one has come", longer.ahead(0, 14, 1), 8 + 2 * 3);
    }

    /** What a SUM is for WAY 0 of goer 0: he goes by WAY 0 if it is what is wanted, else by WAY 1. */
    private static void worth(String land, int minutes, String sum, long want) {
        String rule = "take 1 if way = 1;take 2 if " + sum + " = " + want + ";take 0";
        TurningRoads roads = Check.of(land, "take 9 - way", rule);
        if (minutes > 0) {
            roads.tick(0, minutes);
        }
        roads.tick(1, 1);
        Check.due(sum + " of " + land, roads.goer(0, 3), 0);
    }

    private static void words() {
        String land = "way 0 1 7;way 0 2 1;way 1 3 1;way 1 4 1;way 4 5 2;goer 0 5 4;goer 1 1 0;goer 1 1 0";
        worth(land, 4, "way", 0);
        worth(land, 4, "minutes", 7);
        worth(land, 4, "gone", 0);
        worth(land, 4, "last", 0);
        worth(land, 4, "to", 1);
        worth(land, 4, "far", 2);
        worth(land, 4, "out", 2);
        worth(land, 4, "there", 2);
        worth(land, 4, "goer", 0);
        worth(land, 4, "aim", 5);
        worth(land, 4, "clock", 4);
        worth(land, 4, "on", 0);
        worth(land, 4, "1 + 2 * 3", 7);
        worth(land, 4, "7 - 2 - 1", 4);
        worth(land, 4, "100 / 7 / 2", 7);
        worth(land, 4, "7 / 2 * 2", 6);
        worth(land, 4, "2 * 7 / 4 + 10 - 3 * 3", 4);
        worth(land, 4, "5 / 0", 0);
        worth("way 0 1 7;way 0 2 1;goer 0 5 4", 4, "far", 99);
        worth("way 0 1 1;way 0 2 1;goer 0 5 4;goer 0 1 0;goer 1 0 2", 4, "gone", 2);
        worth("way 0 1 1;way 0 2 1;goer 0 5 4;goer 0 1 0;goer 1 0 2", 4, "last", 2);
        // goer 1 goes before minute 4, and is on the WAY still
        worth("way 0 1 7;way 0 2 1;goer 0 5 4;goer 0 1 2", 4, "on", 1);
    }

    private static void tests() {
        Told.tested("1 < 2", true);
        Told.tested("2 < 2", false);
        Told.tested("2 <= 2", true);
        Told.tested("3 <= 2", false);
        Told.tested("2 = 2", true);
        Told.tested("2 = 1", false);
        Told.tested("2 >= 2", true);
        Told.tested("1 >= 2", false);
        Told.tested("2 > 2", false);
        Told.tested("3 > 2", true);
        Told.tested("not 3 > 2", false);
        Told.tested("not not 3 > 2", true);
        Told.tested("1 < 2 and 2 < 1", false);
        Told.tested("1 < 2 or 2 < 1", true);
        Told.tested("1 < 2 or 1 < 2 and 2 < 1", true);
        Told.tested("2 < 1 and 1 < 2 or 1 < 2", true);
        Told.tested("[1 < 2 or 1 < 2] and 2 < 1", false);
        Told.tested("not 2 < 1 and 2 < 1", false);
        Told.tested("not [2 < 1 and 2 < 1]", true);
        Told.tested("2 < 1 or 2 < 1 or 1 < 2", true);
        Told.tested("not 1 < 2 or 1 < 2", true);
        Told.tested("0 - 7 / 2 = 0 - 3", true);
        String below = "99999*99999*99999*99999*99999";
        Told.tested(below + " < 0", true);
        Told.tested(below + "/2*2 = 1 + " + below, true);
        Told.tested("99999*99999*99999*99999 < 0", 99999L * 99999L * 99999L * 99999L < 0);
        Told.tested("99999*99999*99999*99999*99999 < 0", 99999L * 99999L * 99999L * 99999L * 99999L < 0);
    }

    /** Six rules that are as long as can be; each takes the WAY of its own number. */
    private static void longRules() {
        StringBuilder land = new StringBuilder();
        String[] rules = new String[6];
        for (int i = 0; i < 6; i++) {
            land.append("way 0 ").append(i + 1).append(" 1;");
            StringBuilder sum = new StringBuilder("take 0");
            for (int k = 0; k < 54; k++) {
                sum.append(k % 2 == 0 ? "+1" : "*0");
            }
            rules[i] = "take 2 if way=" + i + ";" + sum;
        }
        TurningRoads roads = Check.of(land + "goer 0 7 0", rules);
        for (int i = 0; i < 6; i++) {
            Check.due("long rule " + i, roads.ahead(i, 2, 3), 1 << i);
        }
    }

    private static void waits() {
        // in wait: his own PLACE, himself counted; the WAY's words are 0
        String land = "way 3 1 5;way 3 2 6;way 1 4 1;goer 3 4 0;goer 3 3 0";
        String[] holding = {"to = 3", "out = 2", "there = 2", "far = 2", "goer = 0", "aim = 4", "clock = 0", "way = 0",
            "minutes = 0", "gone = 0", "last = 0", "on = 0"};
        for (String test : holding) {
            TurningRoads roads = Check.of(land, "take way;wait " + test);
            roads.tick(0, 1);
            Check.due("wait " + test, roads.goer(0, 0), 3);
            TurningRoads goes = Check.of(land, "take way;wait not " + test);
            goes.tick(0, 1);
            Check.due("wait not " + test, goes.goer(0, 3), 1);
        }
        TurningRoads some = Check.of(land, "wait 1 > 2;take 1;wait clock < 2");
        Check.due("any wait", some.ahead(0, 2, 2), 0);
        some.tick(0, 2);
        Check.due("he stayed", some.goer(0, 0), 3);
        some.tick(0, 1);
        Check.due("he goes", some.goer(0, 3), 0);
        TurningRoads none = Check.of(land, "wait 1 > 2");
        none.tick(0, 5);
        Check.due("no take, no going", none.goer(0, 0), 3);
        TurningRoads test = Check.of(land, "take 5 if way = 7");
        test.tick(0, 5);
        Check.due("no way has a take", test.goer(0, 0), 3);
        TurningRoads below = Check.of(land, "take 0 - 5 - way");
        below.tick(0, 1);
        Check.due("the greatest below 0", below.goer(0, 3), 0);
        TurningRoads alike = Check.of(land, "take 5");
        alike.tick(0, 1);
        Check.due("of several the least", alike.goer(0, 3), 0);
        TurningRoads first = Check.of(land, "take 9 if way = 0;take 10 if way = 1;take 99");
        first.tick(0, 1);
        Check.due("the first clause that holds", first.goer(0, 3), 1);
    }

    private static void sameMinute() {
        // he comes to 1 and sets out again in the same minute; 1 stands there and sees that the WAY has turned
        TurningRoads roads = Check.of("way 0 1 1;way 1 2 1;goer 0 2 0;goer 1 0 1", "take 9 - far");
        roads.tick(0, 2);
        Check.due("goer 0 goes on at once", roads.goer(0, 3), 1);
        Check.due("goer 1 by the way that has turned", roads.goer(1, 3), 0);
        Check.due("heading for 0", roads.goer(1, 6), 0);
        Check.due("gone", roads.way(0, 3), 1);
        TurningRoads there = Check.of("way 0 1 9;way 0 1 9;goer 0 1 0;goer 0 1 0", "take 5 - on");
        there.tick(0, 1);
        Check.due("the first", there.goer(0, 3), 0);
        Check.due("the second sees him on it", there.goer(1, 3), 1);
        TurningRoads left = Check.of("way 0 1 9;way 2 0 9;way 2 3 9;goer 0 1 0;goer 2 5 0", "take 5 - there");
        left.tick(0, 1);
        Check.due("who set out stands there no more", left.goer(1, 3), 1);
        TurningRoads last = Check.of("way 0 1 9;way 2 0 9;way 2 3 9;goer 2 5 0;goer 0 1 0", "take 5 - there");
        last.tick(0, 1);
        Check.due("who sets out later stands there still", last.goer(0, 3), 2);
    }

    private static void finest() {
        TurningRoads roads = Check.of("way 0 1 3;way 0 2 1;goer 0 1 0", "take way", "take 5 - way", "take 1", "take 5 - way");
        Check.due("the least that brings him there", roads.finest(10), 1);
        Check.due("in 600", roads.finest(600), 1);
        Check.due("all alike", roads.finest(0), 0);
        Check.due("all alike in 3", roads.finest(3), 0);
        Check.due("in 4", roads.finest(4), 1);
        // by rule 0 two meet, by rule 1 goer 2 waits till they have come
        TurningRoads meet = Check.of("way 0 1 3;goer 0 1 0;goer 0 1 1;goer 1 0 0", "take 1", "take 1;wait goer = 2 and clock < 5");
        Check.due("the fewest met", meet.finest(5), 1);
        meet.tick(0, 4);
        Check.due("met", meet.count(6), 1);
        Check.due("met in what comes", meet.ahead(0, 1, 1), 0);
        Check.due("alike from now on", meet.finest(1), 0);
        Check.due("nothing changes", meet.count(5), 4);
    }

    private static void days() {
        // draws from x = 0: x is 12345 then 1406932606, 654583775 ..: 0, 21468, 9988 by 65536
        TurningRoads roads = Check.of("way 0 1 1;goer 0 1 0", "take 1");
        // leaves at 0 mod 60 = 0, 21468 mod 60 = 48, 9988 mod 60 = 28: there behind 2, 50, 30 minutes
        Check.due("1 day of 1", roads.days(0, 1, 1, 0), 0);
        Check.due("1 day of 2", roads.days(0, 1, 2, 0), 1);
        Check.due("3 days of 29", roads.days(0, 3, 29, 0), 1);
        Check.due("3 days of 30", roads.days(0, 3, 30, 0), 2);
        Check.due("3 days of 49", roads.days(0, 3, 49, 2), 2);
        Check.due("3 days of 50", roads.days(0, 3, 50, 2), 3);
        Check.due("x is as it was", roads.count(8), 0);
        Check.due("nothing changes", roads.goer(0, 2), 0);
        Check.due("nor the clock", roads.count(5), 0);
        roads.seed(12345);
        Check.due("the second draw first", roads.days(0, 1, 49, 0), 0);
        Check.due("the second draw first, in 50", roads.days(0, 1, 50, 0), 1);
        Check.due("20 days", roads.days(0, 20, 300, 0), 20);
        Check.due("no minutes", roads.days(0, 20, 0, 0), 0);
        int[] wrong = {-1, 0, 21, Integer.MIN_VALUE, Integer.MAX_VALUE};
        for (int m : wrong) {
            Check.due("days " + m, roads.days(0, m, 1, 0), -1);
        }
        Check.due("days of 301", roads.days(0, 1, 301, 0), -1);
        Check.due("days what 3", roads.days(0, 1, 1, 3), -1);
        Check.due("days what -1", roads.days(0, 1, 1, -1), -1);
        Check.due("all of none", Check.of("way 0 1 1", "take 1").days(0, 7, 5, 2), 7);
        // two goers: the first draws ahead of the second each day; 0 and 48, then 28 ..
        TurningRoads two = Check.of("way 0 1 1;way 0 1 1;goer 0 1 0;goer 0 1 0", "take 1 if way = goer");
        Check.due("one of two", two.days(0, 1, 49, 0), 1);
        Check.due("not all", two.days(0, 1, 49, 2), 0);
        Check.due("both", two.days(0, 1, 50, 2), 1);
        TurningRoads meet = Check.of("way 0 1 60;goer 0 1 0;goer 0 1 0;goer 1 0 0", "take 1");
        // 0 is there behind 61 minutes, 1 behind 109; 2 (28) enters in the 61st: with 1 from the 61st to the 108th
        Check.due("met in a day", meet.days(0, 1, 300, 1), 48);
        Check.due("met in a day's 61 minutes", meet.days(0, 1, 61, 1), 1);
        Check.due("met in a day's 60 minutes", meet.days(0, 1, 60, 1), 0);
        Check.due("met stays", meet.count(6), 0);
    }

    public static void main(String[] args) {
        oneGoer();
        tickEdges();
        meetings();
        words();
        tests();
        longRules();
        waits();
        sameMinute();
        finest();
        days();
        Check.finish();
    }
}
