/** Promises 1 to 5: a new object, the TAPE, LANDS and RULES with their FAULTS. */
public final class TextPromisesTest {
    private static void newObject() {
        TurningRoads roads = new TurningRoads();
        for (int what = 0; what <= 9; what++) {
            Check.due("new count " + what, roads.count(what), 0);
        }
        Check.due("new way", roads.way(0, 0), -1);
        Check.due("new goer", roads.goer(0, 0), -2);
        Check.due("new place out", roads.place(0, 0), 0);
        Check.due("new place reach", roads.place(3, 4), 8);
        Check.due("new far to itself", roads.far(2, 2), 0);
        Check.due("new far", roads.far(2, 3), -2);
        Check.due("new go", roads.go(0, 0), -1);
        Check.due("new turn", roads.turn(0), 0);
        Check.due("new turn 1", roads.turn(1), -1);
        Check.due("new fewest", roads.fewest(1), -1);
        Check.due("new alike", roads.alike(), 1);
        Check.due("new decoys", roads.decoys(0), -1);
        Check.due("new post", roads.post(0, 0, false), -1);
        Check.due("new longest", roads.longest(0, 0, 0), -1);
        Check.due("new done", roads.done(), 0);
        Check.due("new free", roads.free(0), -1);
        Check.due("new row", roads.row(0, 0), -2);
        Check.due("new tick", roads.tick(0, 1), -1);
        Check.due("new ahead", roads.ahead(0, 0, 0), -1);
        Check.due("new finest", roads.finest(0), -2);
        Check.due("new finest, n wrong", roads.finest(601), -1);
        Check.due("new home", roads.home(0, 0), -1);
        Check.due("new days", roads.days(0, 1, 0, 0), -1);
        Check.due("new back", roads.back(0), -1);
        Check.due("new land of nothing", roads.land(), Check.fault(0, 0));
        Check.due("new rule of nothing", roads.rule(), Check.fault(0, 0));
        Check.due("the constant", TurningRoads.NONE, -1);
    }

    private static void feedAndEnd() {
        TurningRoads roads = new TurningRoads();
        // "way 0 1 5;goer 0 1 0", the highest byte first
        Check.due("feed", roads.feed(0x77617920, 0x30203120, 0x353b676f, 0x65722030, 0x20312030), 20);
        Check.due("what was fed", roads.land(), 1);
        Check.due("its way to", roads.way(0, 1), 1);
        Check.due("its minutes", roads.way(0, 2), 5);
        Check.due("its goer's aim", roads.goer(0, 1), 1);
        Check.due("the tape is empty then", roads.count(9), 0);
        for (int i = 1; i <= 20; i++) {
            Check.due("feed " + i, roads.feed(-1, i, Integer.MIN_VALUE, Integer.MAX_VALUE, 0), 20 * i);
        }
        Check.due("feed beyond 400", roads.feed(0, 0, 0, 0, 0), -1);
        Check.due("none came", roads.count(9), 400);
        Check.due("end above", roads.end(401), -1);
        Check.due("end below 0", roads.end(-1), -1);
        Check.due("end far below 0", roads.end(Integer.MIN_VALUE), -1);
        Check.due("still all", roads.count(9), 400);
        Check.due("end 400", roads.end(400), 400);
        Check.due("end 381", roads.end(381), 381);
        Check.due("no room for twenty", roads.feed(0, 0, 0, 0, 0), -1);
        Check.due("end 380", roads.end(380), 380);
        Check.due("end with more than there are", roads.end(381), -1);
        Check.due("room for twenty", roads.feed(0, 0, 0, 0, 0), 400);
        Check.due("end 0", roads.end(0), 0);
        Check.due("end 1 of none", roads.end(1), -1);
        Check.due("bytes", roads.count(9), 0);
    }

    private static void landFaults() {
        Told.landFault("", 0, 0);
        Told.landFault("   ", 3, 0);
        Told.landFault("way", 3, 0);
        Told.landFault("way 0", 5, 0);
        Told.landFault("way 0 1", 7, 0);
        Told.landFault("way 0 1 ", 8, 0);
        Told.landFault("way 0 1 5;", 10, 0);
        Told.landFault("way 0 1 5 ; ", 12, 0);
        Told.landFault("way 0 1 5;;way 0 1 5", 10, 0);
        Told.landFault(";way 0 1 5", 0, 0);
        Told.landFault("way 8 1 5", 4, 1);
        Told.landFault("way 0 8 5", 6, 1);
        Told.landFault("way 0 0 5", 6, 1);
        Told.landFault("way  3   3 5", 9, 1);
        Told.landFault("way 0 1 0", 8, 1);
        Told.landFault("way 0 1 61", 8, 1);
        Told.landFault("way 0 1 000005", 8, 1);
        Told.landFault("way 000001 1 5", 4, 1);
        Told.landFault("way 9999999999999 1 5", 4, 1);
        Told.landFault("wayx 0 1 5", 0, 0);
        Told.landFault("wa 0 1 5", 0, 0);
        Told.landFault("wayz 0 1 5", 0, 0);
        Told.landFault("waya 0 1 5", 0, 0);
        Told.landFault("waygoer 0 1 5", 0, 0);
        Told.landFault("minutesminutes 0 1 5", 0, 0);
        Told.landFault("Way 0 1 5", 0, 0);
        Told.landFault(" take 1", 1, 0);
        Told.landFault("way 0 1 5 6", 10, 0);
        Told.landFault("way 0 1 5,", 9, 0);
        Told.landFault("way 0 1 5x", 9, 0);
        Told.landFault("way 0 1 -5", 8, 0);
        Told.landFault("way\t0 1 5", 3, 0);
        Told.landFault("way 0 1 5\0", 9, 0);
        Told.landFault("way 0 1 5\u00ff", 9, 0);
        Told.landFault("goer 8 1 5", 5, 1);
        Told.landFault("goer 0 8 5", 7, 1);
        Told.landFault("goer 0 1 1000", 9, 1);
        Told.landFault("goer 0 1", 8, 0);
        Told.landFault("goer 0 goer", 7, 0);
        Told.landFault("way 8 9 99", 4, 1);
        String ways = Told.times("way 0 1 5", 14, ";");
        Told.landFault(ways + ";way 0 1 5", ways.length() + 1, 4);
        Told.landFault(ways + "; way 9", ways.length() + 2, 4);
        Told.landFault(ways + ";wax", ways.length() + 1, 0);
        Told.landFault(ways + ";", ways.length() + 1, 0);
        String goers = Told.times("goer 0 1 5", 6, ";");
        Told.landFault(goers + ";goer 0 1 5", goers.length() + 1, 4);
        Told.landFault(ways + ";" + goers + ";way 0 1 1", ways.length() + goers.length() + 2, 4);
        Told.landFits(ways + ";" + goers, 14, 6);
        Told.landFits("way0 1 5", 1, 0);
        Told.landFits(" way 0 1 00060 ", 1, 0);
        Told.landFits("way 0 00007 1;goer 7 7 999", 1, 1);
        Told.landFits("goer 0 1 0 ;goer 2 2 00999;way 7 0 60", 1, 2);
    }

    private static void landAnew() {
        TurningRoads roads = Check.of("way 0 1 2;way 1 0 2;goer 0 1 0;goer 2 2 0;goer 1 0 0", "take 1");
        roads.seed(77);
        Check.due("go", roads.go(0, 0), 1);
        Check.due("row", roads.row(0, 1), 1);
        Check.due("image", roads.image(2), 0);
        roads.tick(0, 3);
        Check.due("land anew", Check.land(roads, "way 4 5 6;way 5 4 1;goer 5 5 3"), 2);
        int[] counts = {2, 1, 1, 0, 0, 0, 0, 0, 77, 0};
        for (int what = 0; what < counts.length; what++) {
            Check.due("count " + what + " of a new land", roads.count(what), counts[what]);
        }
        Check.due("gone", roads.way(0, 3), 0);
        Check.due("last", roads.way(0, 4), 0);
        Check.due("from", roads.way(0, 0), 4);
        Check.due("leaves", roads.goer(0, 2), 3);
        Check.due("home of one who stands at his aim", roads.goer(0, 5), 0);
        Check.due("the images stay", roads.back(2), 0);
        Check.due("and the land comes back", roads.count(1), 3);
        Check.due("with its going", roads.way(0, 3), 1);
    }

    private static void ruleFaults() {
        Told.ruleFault("", 0, 0);
        Told.ruleFault("take", 4, 0);
        Told.ruleFault("take ", 5, 0);
        Told.ruleFault("way 0 1 5", 0, 0);
        Told.ruleFault("taken 1", 0, 0);
        Told.ruleFault("take 1 if", 9, 0);
        Told.ruleFault("take 1 if 1", 11, 0);
        Told.ruleFault("take 1 if 1 <", 13, 0);
        Told.ruleFault("take 123456", 5, 1);
        Told.ruleFault("take 1 if 1 < 000001", 14, 1);
        Told.ruleFault("take 1;", 7, 0);
        Told.ruleFault("take 1 +", 8, 0);
        Told.ruleFault("take + 1", 5, 0);
        Told.ruleFault("take -1", 5, 0);
        Told.ruleFault("take foo", 5, 0);
        Told.ruleFault("take if", 5, 0);
        Told.ruleFault("take wayif 1<2", 5, 0);
        Told.ruleFault("take 1 1", 7, 0);
        Told.ruleFault("take [ 1 ]", 5, 0);
        Told.ruleFault("take 1 < 2", 7, 0);
        Told.ruleFault("wait 1", 6, 0);
        Told.ruleFault("wait 1 if 2", 7, 0);
        Told.ruleFault("wait [1<2", 9, 0);
        Told.ruleFault("wait 1<2]", 8, 0);
        Told.ruleFault("wait [1]", 7, 0);
        Told.ruleFault("wait 1 < = 2", 9, 0);
        Told.ruleFault("wait 1 => 2", 8, 0);
        Told.ruleFault("wait 1<>2", 7, 0);
        Told.ruleFault("wait 1<2<3", 8, 0);
        Told.ruleFault("wait not", 8, 0);
        Told.ruleFault("wait 1<2 and", 12, 0);
        Told.ruleFault("wait 1<2 or or 1<2", 12, 0);
        Told.ruleFault("wait 1<2 andd 1<2", 9, 0);
        Told.ruleFault("wait 1<2 not 1<2", 9, 0);
        Told.ruleFault("take 1 wait 1<2", 7, 0);
        Told.ruleFault("take WAY", 5, 0);
        Told.ruleFault("take 1\n", 6, 0);
        Told.ruleFault("wait " + Told.times("[", 11, "") + "1<2" + Told.times("]", 11, ""), 15, 2);
        Told.ruleFault("wait " + Told.times("not", 11, " ") + " 1<2", 5 + 40, 2);
        Told.ruleFault("wait " + Told.times("not[", 6, "") + "1<2" + Told.times("]", 6, ""), 5 + 20, 2);
        Told.ruleFault("wait " + Told.times("[", 10, "") + "not 1<2", 15, 2);
        Told.ruleFault("wait " + Told.times("[", 10, "") + "1<2" + Told.times("]", 9, ""), 5 + 10 + 3 + 9, 0);
        Told.ruleFault("take " + Told.times("1", 61, "+"), 5 + 120, 3);
        Told.ruleFault("take " + Told.times("1", 60, "+") + "+foo", 5 + 120, 0);
        Told.ruleFault("take " + Told.times("1", 60, "+") + "+123456", 5 + 120, 1);
        Told.ruleFault("take " + Told.times("1", 60, "+") + " if 1<2", 5 + 119 + 4, 3);
        Told.ruleFault("take 1;take " + Told.times("1", 60, "*"), 12 + 118, 3);
        String facts = "wait " + Told.times("1<1", 19, " and ");
        Told.ruleFault(facts + " or 1+1+1<1", facts.length() + 9, 3);
        Told.ruleFault(facts + " or 1+1 <= 1", facts.length() + 11, 3);
        Told.ruleFault(facts + " or 1<1 or 1<1", facts.length() + 11, 3);
        Told.ruleFault(facts + " or 1+1+1+1", facts.length() + 10, 3);
        Told.ruleFault(facts + " or 1+1+1!", facts.length() + 9, 0);
        String clauses = Told.times("take 1", 12, ";");
        Told.ruleFault(clauses + ";take 1", clauses.length() + 1, 4);
        Told.ruleFault(clauses + "; wait 1<2", clauses.length() + 2, 4);
        Told.ruleFault(clauses + ";if", clauses.length() + 1, 0);
        Told.ruleFault(clauses + ";", clauses.length() + 1, 0);
    }

    private static void rulesThatFit() {
        Told.ruleFits("take 1");
        Told.ruleFits(" take99999 ; wait1<2 ");
        Told.ruleFits("take way+minutes-gone*last/to+far-out+there-goer+aim-clock+on");
        Told.ruleFits("take 1 if not not[1<2]or 1>=2 and 3 = 4;wait not 1 <=2");
        Told.ruleFits("wait " + Told.times("[", 10, "") + "1<2" + Told.times("]", 10, ""));
        Told.ruleFits("wait " + Told.times("not", 10, " ") + " 1<2");
        Told.ruleFits("wait " + Told.times("not[", 5, "") + "1<2" + Told.times("]", 5, "") + "and" + Told.times("[", 10, "") + "1<2" + Told.times("]", 10, ""));
        Told.ruleFits("take " + Told.times("1", 60, "+"));
        Told.ruleFits("wait " + Told.times("1<1", 20, " and "));
        Told.ruleFits(Told.times("take 1", 12, ";"));
        Told.ruleFits("take 00000");
    }

    private static void tapeBehindAFault() {
        TurningRoads roads = Check.of("way 0 1 5;goer 0 1 0", "take 1");
        // "take way +" and ten blanks: the fault is the end, behind the last byte
        Check.due("feed", roads.feed(1952541541, 544694649, 539697184, 538976288, 538976288), 20);
        Check.due("rule", roads.rule(), -163);
        Check.due("bytes", roads.count(9), 0);
        Check.due("no byte to keep", roads.end(1), -1);
        int[] counts = {1, 1, 1, 0, 0, 0, 0, 0, 0, 0};
        for (int what = 0; what < counts.length; what++) {
            Check.due("count " + what + " behind a fault", roads.count(what), counts[what]);
        }
        for (int i = 1; i <= 20; i++) {
            Check.due("feed " + i, roads.feed(0x20202020, 0x20202020, 0x20202020, 0x20202020, 0x20202020), 20 * i);
        }
        Check.due("a full tape of blanks", roads.rule(), Check.fault(400, 0));
        Check.due("is empty, too", roads.count(9), 0);
        Check.due("and takes bytes from its begin", roads.feed(1952541541, 540090400, 0x20202020, 0x20202020, 0x20202020), 20);
        Check.due("a rule", roads.rule(), 1);
    }

    private static void sixRules() {
        TurningRoads roads = new TurningRoads();
        for (int i = 0; i < 6; i++) {
            Check.due("rule " + i, Check.rule(roads, "take " + i), i);
            Check.due("a fault between", Check.rule(roads, "tak"), i < 5 ? Check.fault(0, 0) : -1);
            Check.due("bytes behind it", roads.count(9), i < 5 ? 0 : 3);
        }
        Check.due("a seventh", Check.rule(roads, "take 1"), -1);
        Check.due("rules", roads.count(2), 6);
        Check.due("the tape stays", roads.count(9), 6);
        Check.due("a new land", Check.land(roads, "way 0 1 1"), 1);
        Check.due("leaves the rules", roads.count(2), 6);
    }

    public static void main(String[] args) {
        newObject();
        feedAndEnd();
        landFaults();
        landAnew();
        ruleFaults();
        rulesThatFit();
        tapeBehindAFault();
        sixRules();
        Check.finish();
    }
}
