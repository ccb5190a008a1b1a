import java.util.List;

/** What the document says of the edges of days by the minute: promises 25 to 28 and 30, RULES at work, and part III. */
final class MinutesEdges {
    private static final int[] FAR_OUT = {Integer.MIN_VALUE, Integer.MIN_VALUE + 1, -256, -2, -1, 100000, Integer.MAX_VALUE};
    private static final String LONG_LINE = "way 0 1 60;way 1 2 60;way 2 3 60;way 3 4 60;way 4 5 60;way 5 6 60;way 6 7 60;goer 0 7 0";
    private static final String MEETING = "way 0 1 3;goer 0 1 0;goer 0 1 1;goer 1 0 0";

    private MinutesEdges() {
    }

    /** GOER 0 sets out by WAY 0 if the SUM is what is wanted for it, else by WAY 1; by rule 0 for so many minutes ahead. */
    private static void worth(String land, int minutes, String sum, long want) {
        TurningRoads roads = Check.of(land, "take 9 - way", "take 1 if way = 1;take 2 if " + sum + " = " + want + ";take 0");
        if (minutes > 0) {
            roads.tick(0, minutes);
        }
        roads.tick(1, 1);
        Check.due(sum + " of " + land, roads.goer(0, 3), 0);
    }

    /**
     * GOER 0 has set out by the rule, or has not. WAY 0 leads to his aim; WAY 1 was gone by twice, two are on it, one
     * stands where it leads to, and it is longer.
     */
    private static TurningRoads unlikeWays(String rule) {
        TurningRoads roads = Check.of(
            "way 0 1 1;way 0 2 2;way 2 3 1;goer 0 1 1;goer 2 2 0;goer 0 7 0;goer 0 7 0;goer 0 0 0", "take way + on", rule);
        roads.go(4, 1);
        roads.go(4, 1);
        roads.tick(0, 1);
        roads.tick(1, 1);
        return roads;
    }

    /** Two LANDS with like DIRECTIONS, in which unlike WAYS lead to the aim. */
    private static void farInAnotherLand(int aim) {
        int here = (aim + 1) % 8;
        int other = (aim + 2) % 8;
        String to = "way " + here + " " + aim + " 1";
        String away = "way " + here + " " + other + " 1";
        String goer = ";goer " + here + " " + aim + " 0";
        TurningRoads roads = Check.of(to + ";" + away + goer, "take 99-far");
        Check.due("by way 0 to " + aim, roads.ahead(0, 2, 3), 1);
        Check.land(roads, away + ";" + to + goer);
        Check.due("by way 1 to " + aim, roads.ahead(0, 2, 3), 2);
    }

    private static void wordsOfAWay() {
        Says.terms("way, minutes, gone, last (of the WAY), to (the PLACE it leads to)");
        String land = "way 0 7 60;way 0 2 1;way 7 3 1;way 7 4 1;way 4 5 2;goer 0 5 4;goer 7 7 0;goer 7 7 0";
        worth(land, 4, "way", 0);
        worth(land, 4, "minutes", 60);
        worth(land, 4, "gone", 0);
        worth(land, 4, "last", 0);
        worth(land, 4, "to", 7);
        String twice = "way 0 1 1;way 0 2 1;goer 0 5 4;goer 0 1 0;goer 1 0 2";
        worth(twice, 4, "gone", 2);
        worth(twice, 4, "last", 2);
        worth(twice, 4, "to", 1);
        Says.terms("far (of that PLACE to the GOER's aim, by WAYS as they lead now; 99: none)");
        worth(land, 4, "far", 2);
        worth("way 0 5 1;way 0 2 1;goer 0 5 4", 4, "far", 0);
        worth("way 0 1 1;way 0 2 1;goer 0 5 4", 4, "far", 99);
        worth("way 0 1 1;way 0 2 1;way 5 1 1;goer 0 5 4", 4, "far", 99);
        String line = "way 0 1 1;way 0 7 1;way 1 2 1;way 2 3 1;way 3 4 1;way 4 5 1;way 5 6 1;";
        worth(line + "goer 0 6 0", 0, "far", 5);
        worth(line + "way 6 7 1;goer 0 7 0", 0, "far", 6);
        worth("way 0 1 1;way 0 7 1;way 2 1 1;goer 0 2 4;goer 2 1 0", 4, "far", 1);
        for (int aim = 0; aim < 8; aim++) {
            farInAnotherLand(aim);
        }
        TurningRoads most = Check.of(Told.times("way 0 1 1", 12, ";") + ";way 0 2 1;way 2 7 1;" + Told.times("goer 0 7 0", 6, ";"),
            "take 99-far");
        Check.due("by 14 ways, six goers in 2 minutes", most.ahead(0, 2, 0), 0);
        Check.due("by 14 ways, six goers in 3 minutes", most.ahead(0, 3, 0), 6);
        Check.due("each way was turned by six", most.ahead(0, 3, 3), 0);
        Says.terms("out (WAYS that lead away from that PLACE), there (GOERS that stand there)");
        worth(land, 4, "out", 2);
        worth("way 0 1 1;way 0 2 1;goer 0 5 4", 4, "out", 0);
        worth(land, 4, "there", 2);
        worth("way 0 1 1;way 0 2 1;goer 0 5 4", 4, "there", 0);
        worth("way 0 1 9;way 0 2 1;goer 0 5 4;goer 0 1 0;goer 1 1 0", 4, "there", 1);
        Says.terms("goer, aim (its PLACE), clock (the minute), on (GOERS that are on the WAY)");
        worth(land, 4, "goer", 0);
        worth(land, 4, "aim", 5);
        worth(land, 4, "clock", 4);
        worth("way 0 1 1;way 0 2 1;goer 0 5 0", 0, "clock", 0);
        worth(land, 4, "on", 0);
        worth("way 0 1 7;way 0 2 1;goer 0 5 4;goer 0 1 2;goer 0 1 3", 4, "on", 2);
        TurningRoads last = Check.of("way 0 1 1;way 0 2 1;" + Told.times("goer 0 0 0", 5, ";") + ";goer 0 7 0", "take way if goer = 5 and aim = 7");
        Check.due("goer 5 with aim 7", last.ahead(0, 2, 3), 2);
        String[] words = {"way", "minutes", "gone", "last", "to", "far", "out", "there", "on"};
        for (String word : words) {
            Check.due("by " + word + " alone", unlikeWays("take " + word).goer(0, 3), 1);
        }
    }

    private static void wordsInWait() {
        Says.terms("In wait: goer, aim, clock, out, there of the PLACE where he stands (himself counted), far from there, to that PLACE, the others 0.");
        String land = "way 3 1 5;way 3 2 6;way 1 4 1;goer 3 4 1;goer 3 3 0;goer 3 4 0";
        String[] words = {"goer = 0", "aim = 4", "clock = 1", "out = 2", "there = 2", "far = 2", "to = 3",
            "way = 0", "minutes = 0", "gone = 0", "last = 0", "on = 0"};
        for (String word : words) {
            TurningRoads roads = Check.of(land, "take way", "take way;wait " + word, "take way;wait not " + word);
            roads.tick(0, 1);
            Check.due("wait " + word, roads.ahead(1, 7, 2), 1);
            Check.due("wait not " + word, roads.ahead(2, 7, 2), 2);
        }
        String[] behindOthers = {"goer = 0", "aim = 1", "clock = 1", "out = 2", "there = 2", "far = 1", "to = 0",
            "way = 0", "minutes = 0", "gone = 0", "last = 0", "on = 0"};
        for (String word : behindOthers) {
            Check.due("wait " + word + " behind others", unlikeWays("wait " + word + ";take 1").goer(0, 0), 0);
            Check.due("wait not " + word + " behind others", unlikeWays("wait not " + word + ";take 1").goer(0, 3), 0);
        }
        TurningRoads none = Check.of("way 0 1 1;goer 0 5 0", "take 1;wait far = 99", "take 1;wait far = 98");
        Check.due("no way to his aim", none.ahead(0, 2, 2), 0);
        Check.due("not 98", none.ahead(1, 2, 2), 1);
        TurningRoads alone = Check.of("way 0 1 1;goer 0 5 0", "take 1;wait there = 1");
        Check.due("himself counted", alone.ahead(0, 2, 2), 0);
    }

    private static void signsAtWork() {
        Says.terms("/ is towards 0, 0 by 0");
        Told.tested("7/2 = 3", true);
        Told.tested("99999/99999 = 1", true);
        Told.tested("99998/99999 = 0", true);
        Told.tested("5/0 = 0", true);
        Told.tested("0/0 = 0", true);
        Told.tested("5/0*0+3 = 3", true);
        Told.tested("5/way*0+1 = 1", true);
        // 2 to the 63 goes round to the least of 64 bits, and 1 more is odd: towards 0 is up there
        String least = "32768*32768*32768*32768*8";
        Told.tested(least + "/32768/32768/32768/32768 = 0-8", true);
        String low = "32768*32768*32768*32768*12";
        Told.tested(low + "/32768/32768/32768/32768/3 = 0-1", true);
        Says.terms("all goes round in 64 bits");
        Told.tested(least + " < 0", true);
        Told.tested(least + " - 1 > 0", true);
        Told.tested("32768*32768*32768*32768*4 > 0", true);
        Told.tested("32768*32768*32768*32768*16 = 0", true);
        Told.tested("32768*32768*32768*32768*4 + 32768*32768*32768*32768*4 < 0", true);
        Told.tested("0-99999*99999 < 0-99998*99999", true);
        TurningRoads great = Check.of("way 0 1 1;way 0 2 1;goer 0 5 0", "take way*" + least, "take 0-way*99999*99999*99999");
        Check.due("a take below 0 of 64 bits", great.ahead(0, 2, 3), 1);
        Check.due("another", great.ahead(1, 2, 3), 1);
        TurningRoads greater = Check.of("way 0 1 1;way 0 2 1;goer 0 5 0", "take way*99999*99999*99999 - 99999");
        Check.due("a take above 32 bits", greater.ahead(0, 2, 3), 2);
    }

    private static void arrivals() {
        Says.terms("==== III. MINUTES by a RULE: the CLOCK is 0 at first; GOERS stand or are on a WAY.");
        TurningRoads one = Check.of("way 0 1 1;way 1 0 60;goer 0 1 0", "take 1");
        Check.due("clock", one.count(5), 0);
        Check.due("he stands", one.goer(0, 0), 0);
        one.tick(0, 1);
        Check.due("he is on a way", one.goer(0, 0), 8);
        Says.terms("In a minute: (1) GOERS on a WAY, by their numbers: a minute more; when its minutes are gone, he stands at the PLACE to which he went; "
            + "the WAY leads the other way than it did till then (GONE 1 more, LAST is the number of that GOING).");
        Check.due("not turned while he is on it", one.count(3), 0);
        one.tick(0, 1);
        Check.due("a minute later", one.goer(0, 0), 1);
        Check.due("turned", one.count(3), 1);
        Check.due("gone", one.way(0, 3), 1);
        Check.due("last", one.way(0, 4), 1);
        TurningRoads sixty = Check.of("way 0 1 60;goer 0 1 0", "take 1");
        sixty.tick(0, 60);
        Check.due("59 minutes on it", sixty.goer(0, 4), 59);
        sixty.tick(0, 1);
        Check.due("60 minutes are gone", sixty.goer(0, 0), 1);
        TurningRoads both = Check.of("way 0 1 2;way 4 5 2;goer 4 5 0;goer 0 1 0", "take 1");
        both.tick(0, 3);
        Check.due("goer 0 first", both.way(1, 4), 1);
        Check.due("then goer 1", both.way(0, 4), 2);
        TurningRoads same = Check.of("way 0 1 2;goer 0 1 0;goer 0 1 0", "take 1");
        same.tick(0, 3);
        Check.due("by both turned twice", same.count(3), 0);
        Check.due("gone by twice", same.way(0, 3), 2);
        TurningRoads behind = Check.of("way 0 1 3;goer 0 1 0;goer 0 1 1", "take 1");
        behind.tick(0, 4);
        Check.due("turned under him", behind.way(0, 0), 1);
        behind.tick(0, 1);
        Check.due("he comes to where he went", behind.goer(1, 0), 1);
        Check.due("it leads the other way than it did till then", behind.way(0, 0), 0);
    }

    private static void settingOut() {
        Says.terms("(2) GOERS that stand, not at their aim, whose minute to leave has come (CLOCK not below it), by their numbers");
        TurningRoads leaves = Check.of("way 0 1 9;goer 0 1 2;goer 0 0 0", "take 1");
        leaves.tick(0, 2);
        Check.due("below it", leaves.goer(0, 0), 0);
        leaves.tick(0, 1);
        Check.due("it has come", leaves.goer(0, 0), 8);
        Check.due("one at his aim stays", leaves.goer(1, 0), 0);
        TurningRoads late = Check.of("way 0 1 9;goer 0 1 999", "take 1");
        late.tick(0, 600);
        late.tick(0, 399);
        Check.due("at 998 not yet", late.goer(0, 0), 0);
        late.tick(0, 1);
        Check.due("at 999", late.goer(0, 0), 8);
        TurningRoads numbers = Check.of("way 0 1 9;way 0 1 9;goer 0 1 0;goer 0 1 0", "take 5 - on");
        numbers.tick(0, 1);
        Check.due("goer 0 first", numbers.goer(0, 3), 0);
        Check.due("goer 1 sees him on it", numbers.goer(1, 3), 1);
        TurningRoads atOnce = Check.of("way 0 1 1;way 1 2 1;goer 0 2 0", "take 9 - far");
        atOnce.tick(0, 2);
        Check.due("who came sets out in the same minute", atOnce.goer(0, 3), 1);
        Says.terms("if some wait TEST holds: he stays");
        TurningRoads some = Check.of("way 0 1 1;goer 0 1 0", "wait 1>2;take 1;wait clock<2;wait 1>2");
        TurningRoads only = Check.of("way 0 1 1;goer 0 1 0", "wait clock<2;take 1");
        Check.due("the only one, ahead of the take", only.ahead(0, 3, 2), 0);
        Check.due("then by the take", only.ahead(0, 4, 2), 1);
        Check.due("while one holds", some.ahead(0, 3, 2), 0);
        Check.due("then", some.ahead(0, 4, 2), 1);
        Says.terms("Else of WAYS that lead away from his PLACE the one with the greatest take (the SUM of the first take CLAUSE without a TEST, "
            + "or whose TEST holds; a WAY without one is not taken), of several the least: he is on it (0 minutes).");
        String star = "way 0 1 5;way 0 2 5;way 3 0 5;goer 0 7 0";
        String[] rules = {"take way", "take 5", "take 0-5-way", "take 9 if way=0;take 10 if way=1;take 99", "take 5 if way=1", "take 5 if way=2"};
        int[] taken = {1, 0, 0, 1, 1, -1};
        for (int i = 0; i < rules.length; i++) {
            TurningRoads roads = Check.of(star, rules[i]);
            roads.tick(0, 1);
            Check.due("by '" + rules[i] + "'", roads.goer(0, 3), taken[i]);
            Check.due("0 minutes by '" + rules[i] + "'", roads.goer(0, 4), 0);
        }
        TurningRoads untaken = Check.of(star, "wait 1>2");
        untaken.tick(0, 600);
        Check.due("no take", untaken.goer(0, 0), 0);
        TurningRoads nowhere = Check.of("way 1 0 5;goer 0 7 0", "take 1");
        nowhere.tick(0, 600);
        Check.due("none leads away", nowhere.goer(0, 0), 0);
    }

    private static void clockAndMet() {
        Says.terms("CLOCK is 1 more (99999 at most).");
        TurningRoads late = atTheEnd("way 0 1 1;goer 0 1 0", 99998);
        Check.due("one less", late.count(5), 99998);
        Check.due("one more", late.tick(0, 1), 99999);
        Check.due("no more", late.tick(0, 1), -1);
        TurningRoads looked = atTheEnd("way 0 1 1;way 0 2 1;way 0 3 1;goer 0 5 0;goer 0 6 0", 99999);
        Check.rule(looked, "take 1 if clock = 99999");
        Check.due("minutes are looked at with the clock so", looked.ahead(1, 5, 2), 2);
        Check.due("the clock stays", looked.count(5), 99999);
        Says.terms("MET: two GOERS on one WAY, each having come on it from another end, in a minute, behind (2): once a minute for each such two.");
        TurningRoads three = Check.of("way 0 1 9;goer 0 1 0;goer 0 1 2;goer 0 1 5;goer 1 0 0;goer 1 0 9", "take 1");
        int[] met = {0, 0, 4, 8, 10, 12, 14, 14};
        for (int i = 0; i < met.length; i++) {
            Check.due("met in " + (8 + i), three.ahead(0, 8 + i, 1), met[i]);
        }
        int[] others = {0, 0, 0, 0, 1, 1};
        TurningRoads first = Check.of("way 0 1 3;goer 0 1 1;goer 1 0 0;goer 0 1 0", "take 1");
        TurningRoads second = Check.of("way 0 1 3;goer 1 0 0;goer 0 1 1;goer 0 1 0", "take 1");
        for (int n = 0; n < others.length; n++) {
            Check.due("0 and 1 met in " + n, first.ahead(0, n, 1), others[n]);
            Check.due("1 and 0 met in " + n, second.ahead(0, n, 1), others[n]);
        }
        TurningRoads same = Check.of("way 0 1 9;goer 0 1 0;goer 0 1 0", "take 1");
        Check.due("from one end", same.ahead(0, 9, 1), 0);
        TurningRoads unlike = Check.of("way 0 1 9;way 1 0 9;goer 0 1 0;goer 1 0 0", "take 1");
        Check.due("on unlike ways", unlike.ahead(0, 9, 1), 0);
        TurningRoads met1 = Check.of(MEETING, "take 1");
        met1.tick(0, 3);
        Check.due("behind (2)", met1.count(6), 0);
        met1.tick(0, 1);
        Check.due("one enters as one comes", met1.count(6), 1);
        met1.tick(0, 1);
        Check.due("he has come", met1.count(6), 1);
        Says.terms("HOME of a GOER: the CLOCK when he first stood at his aim (behind that minute; by GO: as it is; 0 if he stood there at first).");
        TurningRoads home = Check.of("way 0 1 2;way 0 1 2;way 4 6 2;goer 0 1 3;goer 0 1 500;goer 1 1 500;goer 4 5 0", "take 1",
            "wait 1<2");
        home.tick(0, 7);
        Check.due("behind that minute", home.goer(0, 5), 6);
        home.go(1, 1);
        Check.due("by go", home.goer(1, 5), 7);
        Check.due("at first", home.goer(2, 5), 0);
        Check.due("not yet", home.goer(3, 5), -1);
        Check.due("elsewhere by go", home.go(2, 0), 0);
        home.tick(1, 1);
        Check.due("there again", home.go(2, 0), 1);
        Check.due("he first stood there", home.goer(2, 5), 0);
        Check.due("elsewhere by go", home.go(1, 1), 0);
        home.tick(1, 1);
        Check.due("there again", home.go(1, 1), 1);
        Check.due("he first stood there by go", home.goer(1, 5), 7);
        Check.due("elsewhere", home.go(0, 0), 0);
        home.tick(0, 9);
        Check.due("there again by the minute", home.goer(0, 0), 1);
        Check.due("he first stood there by the minute", home.goer(0, 5), 6);
        TurningRoads elsewhere = Check.of("way 0 1 1;goer 0 5 0;goer 0 6 9", "take 1");
        elsewhere.tick(0, 2);
        Check.due("not home elsewhere by the minute", elsewhere.goer(0, 5), -1);
        elsewhere.go(0, 0);
        Check.due("not home elsewhere by go", elsewhere.goer(0, 5), -1);
    }

    /** An object whose CLOCK is late, by a rule that keeps all where they are till then. */
    private static TurningRoads atTheEnd(String land, int clock) {
        TurningRoads roads = Check.of(land, "wait 1<2");
        for (int i = 0; i < clock / 600; i++) {
            roads.tick(0, 600);
        }
        if (clock % 600 > 0) {
            roads.tick(0, clock % 600);
        }
        return roads;
    }

    private static void ticks() {
        Says.promise(25, "So many minutes (1 to 600) by a RULE: the CLOCK");
        TurningRoads roads = Check.of(LONG_LINE, "wait 1<2", "take way");
        Check.due("the least", roads.tick(1, 1), 1);
        Check.due("the most", roads.tick(1, 600), 601);
        Check.due("by a rule", roads.goer(0, 0), 7);
        Check.due("in time", roads.goer(0, 5), 421);
        Says.promise(25, "NONE, and nothing happens, without these, or if it would be above 99999");
        TurningRoads lived = Told.lived();
        List<Integer> before = Look.at(lived);
        int[][] wrong = {{0, 0}, {0, 601}, {-1, 1}, {1, 1}, {6, 1}};
        for (int[] no : wrong) {
            Check.due("tick " + no[0] + " " + no[1], lived.tick(no[0], no[1]), -1);
        }
        for (int no : FAR_OUT) {
            Check.due("rule " + no, lived.tick(no, 1), -1);
            Check.due("minutes " + no, lived.tick(0, no), -1);
        }
        Check.same("tick", before, lived);
        TurningRoads late = atTheEnd("way 0 1 1;goer 0 1 0", 99600);
        Check.rule(late, "take 1");
        List<Integer> first = Look.at(late);
        Check.due("it would be 100000", late.tick(1, 400), -1);
        Check.due("it would be far above", late.tick(1, 600), -1);
        Check.same("tick", first, late);
        Check.due("it is 99999", late.tick(1, 399), 99999);
        Check.due("home", late.goer(0, 5), 99602);
        List<Integer> end = Look.at(late);
        Check.due("one more", late.tick(1, 1), -1);
        Check.same("tick", end, late);
    }

    private static void ahead() {
        Says.terms("AHEAD of n minutes (0 to 600) by a RULE: how many GOERS stand at their aims, MET, GOINGS that end in these, DIRECTIONS then (nothing changes).");
        TurningRoads roads = Check.of(MEETING, "take 1");
        int[][] due = {{0, 0, 0, 0}, {0, 0, 0, 0}, {0, 0, 0, 0}, {0, 0, 0, 0}, {1, 1, 1, 1}, {2, 1, 2, 0}};
        List<Integer> before = Look.at(roads);
        for (int n = 0; n < due.length; n++) {
            for (int what = 0; what < 4; what++) {
                Check.due("ahead " + n + " " + what, roads.ahead(0, n, what), due[n][what]);
            }
        }
        Check.same("ahead", before, roads);
        roads.tick(0, 4);
        Check.due("met in these alone", roads.ahead(0, 1, 1), 0);
        Check.due("goings in these alone", roads.ahead(0, 1, 2), 1);
        Check.due("in none at all", roads.ahead(0, 0, 2), 0);
        Check.due("at their aims now", roads.ahead(0, 0, 0), 1);
        Check.due("directions now", roads.ahead(0, 0, 3), 1);
        Says.promise(26, "AHEAD what 0: at their aims, 1: MET in these, 2: GOINGS that end in these, 3: DIRECTIONS");
        TurningRoads line = Check.of(LONG_LINE + ";way 0 7 60", "take 9-far", "take way if way<7");
        Check.due("at his aim in 60", line.ahead(0, 60, 0), 0);
        Check.due("at his aim in 61", line.ahead(0, 61, 0), 1);
        Check.due("the long way in 420", line.ahead(1, 420, 0), 0);
        Check.due("the long way in 421", line.ahead(1, 421, 0), 1);
        Check.due("in 600", line.ahead(1, 600, 2), 7);
        Check.due("directions", line.ahead(1, 600, 3), 127);
        Check.due("without goers", Check.of("way 0 1 1", "take 1").ahead(0, 600, 0), 0);
        Says.promise(26, "NONE without these.");
        int[][] wrong = {{-1, 1, 0}, {2, 1, 0}, {0, -1, 0}, {0, 601, 0}, {0, 1, -1}, {0, 1, 4}};
        for (int[] no : wrong) {
            Check.due("ahead " + no[0] + " " + no[1] + " " + no[2], line.ahead(no[0], no[1], no[2]), -1);
        }
        for (int no : FAR_OUT) {
            Check.due("rule " + no, line.ahead(no, 1, 0), -1);
            Check.due("minutes " + no, line.ahead(0, no, 0), -1);
            Check.due("what " + no, line.ahead(0, 1, no), -1);
        }
    }

    private static void finest() {
        Says.terms("FINEST: the RULE by which most stand at their aims behind n minutes, of several that with the fewest MET, then the least.");
        TurningRoads meet = Check.of(MEETING, "take 1", "take 1;wait goer = 2 and clock < 5", "take 1;wait goer = 2 and clock < 5");
        Check.due("in none", meet.finest(0), 0);
        Check.due("the fewest met, then the least", meet.finest(5), 1);
        Check.due("most at their aims, though they met", meet.finest(7), 0);
        Check.due("by rule 1 the way leads against goer 2 for good", meet.finest(600), 0);
        Says.promise(27, "FINEST (n 0 to 600); -2: there are no RULES");
        TurningRoads line = Check.of(LONG_LINE + ";way 0 7 60", "take way if way<7", "take way", "take 1", "take 1", "take 1", "take way");
        Check.due("0", line.finest(0), 0);
        Check.due("60", line.finest(60), 0);
        Check.due("61", line.finest(61), 1);
        Check.due("420", line.finest(420), 1);
        Check.due("421", line.finest(421), 0);
        Check.due("600", line.finest(600), 0);
        TurningRoads sixth = Check.of("way 0 1 1;way 0 2 1;goer 0 2 0", "take 1", "take 1", "take 1", "take 1", "take 1", "take way");
        Check.due("the last of six", sixth.finest(2), 5);
        Check.due("no rules", Check.of(LONG_LINE).finest(0), -2);
        Check.due("no rules, 600", Check.of(LONG_LINE).finest(600), -2);
        Says.promise(27, "NONE without these.");
        List<Integer> before = Look.at(line);
        Check.due("-1", line.finest(-1), -1);
        Check.due("601", line.finest(601), -1);
        for (int no : FAR_OUT) {
            Check.due("minutes " + no, line.finest(no), -1);
        }
        Check.due("601 without rules", Check.of(LONG_LINE).finest(601), -1);
        Check.same("finest", before, line);
    }

    private static void allHome() {
        Says.terms("ALL HOME: the first minute (of n from now on) behind which all stand at their aims; 0: they do now.");
        TurningRoads line = Check.of(LONG_LINE, "take way", "wait 1<2");
        Check.due("in 600", line.home(0, 600), 421);
        Check.due("in 421", line.home(0, 421), 421);
        Check.due("not in 420", line.home(0, 420), -2);
        line.tick(0, 400);
        Check.due("from now on", line.home(0, 600), 21);
        line.tick(0, 21);
        Check.due("they do now", line.home(0, 0), 0);
        Check.due("they do now, in 600", line.home(1, 600), 0);
        Check.due("without goers", Check.of("way 0 1 1", "take 1").home(0, 0), 0);
        TurningRoads two = Check.of("way 0 1 2;way 4 5 9;goer 0 1 0;goer 4 5 0", "take 1");
        Check.due("all", two.home(0, 600), 10);
        Says.promise(28, "ALL HOME; -2: not in these");
        Check.due("in none", two.home(0, 0), -2);
        Check.due("in 9", two.home(0, 9), -2);
        Check.due("in 10", two.home(0, 10), 10);
        TurningRoads never = Check.of("way 0 1 2;goer 0 5 0", "take 1");
        Check.due("never", never.home(0, 600), -2);
        TurningRoads late = Check.of("way 0 1 1;goer 0 1 598", "take 1");
        Check.due("in the last minute", late.home(0, 600), 600);
        Check.due("one minute too late", Check.of("way 0 1 1;goer 0 1 599", "take 1").home(0, 600), -2);
        Says.promise(28, "NONE without these (n 0 to 600)");
        List<Integer> before = Look.at(two);
        int[][] wrong = {{-1, 1}, {1, 1}, {6, 1}, {0, -1}, {0, 601}};
        for (int[] no : wrong) {
            Check.due("home " + no[0] + " " + no[1], two.home(no[0], no[1]), -1);
        }
        for (int no : FAR_OUT) {
            Check.due("rule " + no, two.home(no, 1), -1);
            Check.due("minutes " + no, two.home(0, no), -1);
        }
        Check.same("home", before, two);
    }

    /** The minute of the first GOER's leaving on the day-th day (from 0 on), of so many GOERS. */
    private static int drawn(int seed, int goers, int day) {
        long x = seed;
        for (int i = 0; i <= day * goers; i++) {
            x = (x * 1103515245L + 12345L) % 2147483648L;
        }
        return (int) (x / 65536 % 60);
    }

    private static void draws() {
        Says.terms("DRAWS: x (0 to 2147483647; 0 at first) becomes x * 1103515245 + 12345, of 2147483648 the rest; a DRAW is x / 65536.");
        Check.due("at first", new TurningRoads().count(8), 0);
        int[] seeds = {0, 1, 12345, 1073741823, 1073741824, 2147483646, 2147483647, 1406932606};
        for (int seed : seeds) {
            TurningRoads roads = Check.of("way 0 1 1;goer 0 1 0", "take 1");
            roads.seed(seed);
            int minutes = drawn(seed, 1, 0) + 2;
            Check.due("there of " + seed, roads.days(0, 1, minutes, 0), 1);
            Check.due("not yet of " + seed, roads.days(0, 1, minutes - 1, 0), 0);
        }
        Says.terms("DAYS: m times (1 to 20) n minutes by a RULE, each from now on, with each GOER's minute to leave a DRAW mod 60 more "
            + "(by their numbers; x goes on from day to day; nothing else changes): "
            + "GOERS at their aims at the ends together, MET together, in how many all are.");
        TurningRoads one = Check.of("way 0 1 1;goer 0 1 100", "take 1");
        for (int n = 100; n <= 162; n += 2) {
            int there = 0;
            for (int day = 0; day < 20; day++) {
                there += drawn(0, 1, day) + 102 <= n ? 1 : 0;
            }
            Check.due("20 days of " + n, one.days(0, 20, n, 0), there);
        }
        TurningRoads two = Check.of("way 0 1 1;way 0 1 1;goer 0 1 0;goer 0 0 0", "take 1");
        int there = 0;
        for (int day = 0; day < 7; day++) {
            there += drawn(0, 2, day) + 2 <= 30 ? 1 : 0;
        }
        Check.due("one draw for each goer, also at his aim", two.days(0, 7, 30, 2), there);
        Check.due("at their aims together", two.days(0, 7, 30, 0), 7 + there);
        two.tick(0, 1);
        Check.due("one on a way comes from now on", two.days(0, 20, 1, 0), 40);
    }

    private static void days() {
        Says.promise(30, "DAYS what 0: at their aims together, 1: MET together, 2: in how many all are");
        TurningRoads meet = Check.of("way 0 1 60;goer 0 1 0;goer 0 1 0;goer 1 0 0", "take 1");
        // draws 0, 48, 28: 0 is there behind 61 minutes, 1 behind 109; 2 enters in the 61st, with 1 till the 108th
        Check.due("at their aims", meet.days(0, 1, 61, 0), 1);
        Check.due("met in 60", meet.days(0, 1, 60, 1), 0);
        Check.due("met in 61", meet.days(0, 1, 61, 1), 1);
        Check.due("met in all", meet.days(0, 1, 300, 1), 48);
        Check.due("all", meet.days(0, 1, 300, 2), 1);
        Check.due("not all", meet.days(0, 1, 120, 2), 0);
        TurningRoads most = Check.of(Told.times("goer 5 5 999", 6, ";"), "take 1");
        Check.due("six in 20 days of none", most.days(0, 20, 0, 0), 120);
        Check.due("six in one day", most.days(0, 1, 0, 0), 6);
        Check.due("in 20 all", most.days(0, 20, 300, 2), 20);
        Check.due("without goers all are", Check.of("way 0 1 1", "take 1").days(0, 20, 300, 2), 20);
        Check.due("without goers none is", Check.of("way 0 1 1", "take 1").days(0, 20, 300, 0), 0);
        TurningRoads met = Check.of(MEETING + ";goer 1 0 0", "take 1");
        met.tick(0, 4);
        Check.due("met till now", met.count(6), 2);
        Check.due("met in none", met.days(0, 20, 0, 1), 0);
        Check.due("met in these alone", met.days(0, 20, 1, 1), 0);
        Says.promise(30, "NONE without these (n 0 to 300).");
        int[][] wrong = {{-1, 1, 1, 0}, {1, 1, 1, 0}, {0, 0, 1, 0}, {0, 21, 1, 0}, {0, -1, 1, 0}, {0, 1, -1, 0}, {0, 1, 301, 0}, {0, 1, 1, -1}, {0, 1, 1, 3}};
        for (int[] no : wrong) {
            Check.due("days " + no[0] + " " + no[1] + " " + no[2] + " " + no[3], meet.days(no[0], no[1], no[2], no[3]), -1);
        }
        for (int no : FAR_OUT) {
            Check.due("rule " + no, meet.days(no, 1, 1, 0), -1);
            Check.due("days " + no, meet.days(0, no, 1, 0), -1);
            Check.due("minutes " + no, meet.days(0, 1, no, 0), -1);
            Check.due("what " + no, meet.days(0, 1, 1, no), -1);
        }
        Says.promise(30, "Behind it x is as it was.");
        TurningRoads lived = Told.lived();
        lived.seed(2147483647);
        List<Integer> before = Look.at(lived);
        Check.due("days", lived.days(0, 20, 300, 0) >= 0 ? 1 : 0, 1);
        Check.due("again the same", lived.days(0, 20, 300, 0), lived.days(0, 20, 300, 0));
        Check.due("x", lived.count(8), 2147483647);
        Check.same("days", before, lived);
    }

    static void run() {
        wordsOfAWay();
        wordsInWait();
        signsAtWork();
        arrivals();
        settingOut();
        clockAndMet();
        ticks();
        ahead();
        finest();
        allHome();
        draws();
        days();
    }
}
