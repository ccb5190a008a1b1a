import java.util.List;

/** Texts that are told as a LAND or as a RULE, with what is due then. */
final class Told {
    /** Three on one WAY, of which two meet: what a LAND holds when something has happened in it. */
    private static final String LIVED = "way 0 1 3;way 4 5 1;way 5 4 2;goer 0 1 0;goer 0 1 1;goer 1 0 0;goer 4 4 999";

    private Told() {
    }

    static String times(String piece, int n, String between) {
        StringBuilder b = new StringBuilder();
        for (int i = 0; i < n; i++) {
            b.append(i > 0 ? between : "").append(piece);
        }
        return b.toString();
    }

    static String blanks(int n) {
        return times(" ", n, "");
    }

    /** Nothing in it is as it was at first; GOERS 1 and 2 are on WAY 0, GOER 3 stands at 5, GOER 0 at his aim. */
    static TurningRoads lived() {
        TurningRoads roads = Check.of(LIVED, "take 1");
        roads.seed(77);
        roads.go(3, 1);
        roads.go(3, 1);
        roads.go(3, 1);
        roads.tick(0, 4);
        roads.row(3, 2);
        roads.row(3, 1);
        roads.row(0, 0);
        Check.tape(roads, "seven..");
        return roads;
    }

    static void landFits(String text, int ways, int goers) {
        TurningRoads roads = new TurningRoads();
        Check.due("land '" + text + "'", Check.land(roads, text), ways);
        Check.due("ways of '" + text + "'", roads.count(0), ways);
        Check.due("goers of '" + text + "'", roads.count(1), goers);
        Check.due("the tape behind '" + text + "'", roads.count(9), 0);
    }

    static void landFault(String text, int place, int kind) {
        TurningRoads roads = lived();
        Check.tape(roads, text);
        List<Integer> before = Look.at(roads);
        Check.due("land '" + text + "'", roads.land(), Check.fault(place, kind));
        Check.same("land '" + text + "'", before, roads);
        Check.due("the tape stays at '" + text + "'", roads.count(9), text.length());
        Check.due("again '" + text + "'", roads.land(), Check.fault(place, kind));
    }

    static void ruleFits(String text) {
        TurningRoads roads = new TurningRoads();
        Check.due("rule '" + text + "'", Check.rule(roads, text), 0);
        Check.due("one rule by '" + text + "'", roads.count(2), 1);
        Check.due("the tape behind '" + text + "'", roads.count(9), 0);
    }

    static void ruleFault(String text, int place, int kind) {
        TurningRoads roads = new TurningRoads();
        Check.due("rule '" + text + "'", Check.rule(roads, text), Check.fault(place, kind));
        Check.due("no rule by '" + text + "'", roads.count(2), 0);
        Check.due("the tape is empty behind '" + text + "'", roads.count(9), 0);
        Check.due("nothing is left of '" + text + "'", roads.rule(), Check.fault(0, 0));
        Check.due("a rule behind '" + text + "'", Check.rule(roads, "take 1"), 0);
    }

    /** What a TEST is: by the rule a GOER takes WAY 1 if it holds for WAY 1, else WAY 0; and waits if it holds in wait. */
    static void tested(String test, boolean holds) {
        String land = "way 0 1 1;way 0 2 1;goer 0 5 0";
        TurningRoads taking = Check.of(land, "take 1 if way = 0;take 2 if " + test);
        Check.due("take if " + test, taking.ahead(0, 2, 3), holds ? 2 : 1);
        TurningRoads waiting = Check.of(land, "take 1;wait " + test);
        Check.due("wait " + test, waiting.ahead(0, 2, 2), holds ? 0 : 1);
    }
}
