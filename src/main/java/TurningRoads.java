import java.util.Arrays;

/** Roads that turn round when someone has gone by them, goers with aims, and what can be told of both. */
public final class TurningRoads {
    public static final int NONE = -1;

    private static final int CANNOT = -2;
    private static final int NO_SUCH_PLACE = -100;
    private static final int PLACES = 8;
    private static final int ON_A_WAY = 8;
    private static final int MOST_BYTES = 400;
    private static final int MOST_WAYS = 14;
    private static final int MOST_GOERS = 6;
    private static final int MOST_RULES = 6;
    private static final int MOST_IMAGES = 4;
    private static final int MOST_IN_ROW = 40;
    private static final int MOST_MINUTES = 600;
    private static final int MOST_CLOCK = 99999;
    private static final int MOST_PACES = 2000;
    private static final int FAR_AWAY = 99;

    private final Tape tape = new Tape();
    private final RuleReader ruleReader = new RuleReader(tape);
    private final Rule[] rules = new Rule[MOST_RULES];
    private final State now = new State();
    private final State spare = new State();
    private final State[] images = new State[MOST_IMAGES];
    private final Minutes minutes = new Minutes();
    private final Search search = new Search(now);
    private final Circle circle = new Circle(now);
    private int ruleCount = 0;

    public TurningRoads() {
    }

    public int feed(int a, int b, int c, int d, int e) {
        if (tape.length + 20 > MOST_BYTES) {
            return NONE;
        }
        tape.put(a);
        tape.put(b);
        tape.put(c);
        tape.put(d);
        tape.put(e);
        return tape.length;
    }

    public int end(int n) {
        if (n < 0 || n > tape.length) {
            return NONE;
        }
        tape.length = n;
        return n;
    }

    public int land() {
        int fault = LandReader.read(tape, spare);
        if (fault != 0) {
            return CANNOT - fault;
        }
        spare.x = now.x;
        now.copyFrom(spare);
        tape.length = 0;
        return now.roads.size;
    }

    public int rule() {
        if (ruleCount >= MOST_RULES) {
            return NONE;
        }
        Rule told = ruleReader.read();
        // Unlike a land's, a rule's fault does not keep the tape: the document lets all stay for a land alone.
        tape.length = 0;
        if (told == null) {
            return CANNOT - tape.fault;
        }
        rules[ruleCount] = told;
        ruleCount++;
        return ruleCount - 1;
    }

    public int way(int way, int what) {
        Roads roads = now.roads;
        if (!roads.has(way)) {
            return NONE;
        }
        switch (what) {
            case 0:
                return roads.tail(way);
            case 1:
                return roads.head(way);
            case 2:
                return roads.minutes[way];
            case 3:
                return roads.gone[way];
            case 4:
                return roads.last[way];
            case 5:
                return now.folk.countOn(way);
            default:
                return NONE;
        }
    }

    public int goer(int goer, int what) {
        Folk folk = now.folk;
        if (!folk.has(goer)) {
            return CANNOT;
        }
        switch (what) {
            case 0:
                return folk.place[goer];
            case 1:
                return folk.aim[goer];
            case 2:
                return folk.leaves[goer];
            case 3:
                return folk.on[goer];
            case 4:
                return folk.spent[goer];
            case 5:
                return folk.home[goer];
            case 6:
                return folk.heading[goer];
            default:
                return CANNOT;
        }
    }

    public int place(int place, int what) {
        if (!isPlace(place)) {
            return NO_SUCH_PLACE;
        }
        int out = Integer.bitCount(now.roads.away(place));
        switch (what) {
            case 0:
                return out;
            case 1:
                return Integer.bitCount(now.roads.hither(place));
            case 2:
                return now.folk.countAt(place);
            case 3:
                return out - now.folk.countAt(place);
            case 4:
                return now.roads.reach(place);
            default:
                return NO_SUCH_PLACE;
        }
    }

    public int far(int from, int to) {
        if (!isPlace(from) || !isPlace(to)) {
            return NONE;
        }
        int distance = now.roads.distance(from, to);
        return distance < 0 ? CANNOT : distance;
    }

    public int go(int goer, int way) {
        if (!now.canMove(goer, way)) {
            return NONE;
        }
        now.move(goer, way);
        return now.folk.place[goer];
    }

    public int turn(int directions) {
        if (directions < 0 || directions >= now.roads.allDirections() || now.folk.busyWays() != 0) {
            return NONE;
        }
        int before = now.roads.directions;
        now.roads.directions = directions;
        return before;
    }

    public int fewest(int goers) {
        if (!canSearch(goers)) {
            return NONE;
        }
        search.begin(goers);
        int goings = search.fewestGoings();
        return goings < 0 ? CANNOT : goings;
    }

    public int step(int goers, int k) {
        if (!canSearch(goers) || k < 0 || k > 999) {
            return NONE;
        }
        search.begin(goers);
        return search.firstRow(k);
    }

    public int comes(int goers, int directions) {
        if (!canSearch(goers) || directions < 0 || directions >= now.roads.allDirections()) {
            return NONE;
        }
        search.begin(goers);
        return search.comesTo(directions) ? 1 : 0;
    }

    public int closed(int goers, int what) {
        if (!canSearch(goers) || what < 0 || what > 1) {
            return NONE;
        }
        if (what == 1) {
            return now.roads.directionsOf(outwardsAtAims(goers)) > 0 ? 1 : 0;
        }
        search.begin(goers);
        return search.closedDirections();
    }

    public int alike() {
        return now.roads.directionsOf(now.roads.outwards());
    }

    public int decoys(int goer) {
        if (!now.folk.stands(goer)) {
            return NONE;
        }
        int others = now.folk.standing() & ~(1 << goer);
        for (int size = 0; size < MOST_GOERS; size++) {
            for (int set = 0; set < 1 << MOST_GOERS; set++) {
                boolean told = (set & ~others) == 0 && Integer.bitCount(set) == size;
                if (told && canSearch(set | 1 << goer) && helps(set, goer)) {
                    return set;
                }
            }
        }
        return CANNOT;
    }

    public int post(int goer, int places, boolean back) {
        if (!now.folk.stands(goer) || places < 0 || places > 255 || now.roads.size > 9) {
            return NONE;
        }
        search.begin(1 << goer);
        int goings = search.postRound(places, back);
        return goings < 0 ? CANNOT : goings;
    }

    public int longest(int goer, int n, int what) {
        if (!canCircle(goer) || n < 0 || n > MOST_PACES || what < 0 || what > 2) {
            return NONE;
        }
        circle.begin(goer);
        int paces = circle.run(n);
        return what == 0 ? circle.place : what == 1 ? circle.directions : paces;
    }

    public int covers(int goer) {
        if (!canCircle(goer)) {
            return NONE;
        }
        circle.begin(goer);
        int paces = circle.pacesToCover();
        return paces < 0 ? CANNOT : paces;
    }

    public int settles(int goer, int what) {
        if (!canCircle(goer) || what < 0 || what > 1) {
            return NONE;
        }
        circle.begin(goer);
        int round = circle.findRound();
        if (round < 0) {
            return CANNOT;
        }
        return what == 0 ? circle.aheadOfRound(round) : round;
    }

    public int row(int goer, int way) {
        if (goer == NONE) {
            now.listed = 0;
            return 0;
        }
        if (!now.folk.has(goer) || !now.roads.has(way) || now.listed >= MOST_IN_ROW) {
            return CANNOT;
        }
        now.list[now.listed] = 16 * goer + way;
        now.listed++;
        return now.listed;
    }

    public int done() {
        spare.copyFrom(now);
        return spare.follow(now.listed);
    }

    public int free(int k) {
        if (k < 0 || k >= now.listed - 1) {
            return NONE;
        }
        long told = stateBehind(k, false);
        long changed = stateBehind(k, true);
        return told >= 0 && told == changed ? 1 : 0;
    }

    public int tick(int rule, int n) {
        if (!isRule(rule) || n < 1 || n > MOST_MINUTES || now.clock + n > MOST_CLOCK) {
            return NONE;
        }
        minutes.pass(now, rules[rule], n);
        return now.clock;
    }

    public int ahead(int rule, int n, int what) {
        if (!isRule(rule) || n < 0 || n > MOST_MINUTES || what < 0 || what > 3) {
            return NONE;
        }
        spare.copyFrom(now);
        minutes.pass(spare, rules[rule], n);
        switch (what) {
            case 0:
                return spare.folk.atAims();
            case 1:
                return spare.met - now.met;
            case 2:
                return spare.goings - now.goings;
            default:
                return spare.roads.directions;
        }
    }

    public int finest(int n) {
        if (n < 0 || n > MOST_MINUTES) {
            return NONE;
        }
        int best = CANNOT;
        int bestAtAims = 0;
        int bestMet = 0;
        for (int rule = 0; rule < ruleCount; rule++) {
            spare.copyFrom(now);
            minutes.pass(spare, rules[rule], n);
            int atAims = spare.folk.atAims();
            if (best < 0 || atAims > bestAtAims || atAims == bestAtAims && spare.met < bestMet) {
                best = rule;
                bestAtAims = atAims;
                bestMet = spare.met;
            }
        }
        return best;
    }

    public int home(int rule, int n) {
        if (!isRule(rule) || n < 0 || n > MOST_MINUTES) {
            return NONE;
        }
        spare.copyFrom(now);
        for (int minute = 0; minute <= n; minute++) {
            if (spare.folk.allAtAims()) {
                return minute;
            }
            minutes.pass(spare, rules[rule], 1);
        }
        return CANNOT;
    }

    public int seed(int x) {
        if (x < 0) {
            return NONE;
        }
        int before = now.x;
        now.x = x;
        return before;
    }

    public int days(int rule, int m, int n, int what) {
        if (!isRule(rule) || m < 1 || m > 20 || n < 0 || n > 300 || what < 0 || what > 2) {
            return NONE;
        }
        int x = now.x;
        int atAims = 0;
        int met = 0;
        int allHome = 0;
        for (int day = 0; day < m; day++) {
            spare.copyFrom(now);
            spare.x = x;
            spare.drawLeaves();
            x = spare.x;
            minutes.pass(spare, rules[rule], n);
            atAims += spare.folk.atAims();
            met += spare.met - now.met;
            allHome += spare.folk.allAtAims() ? 1 : 0;
        }
        return what == 0 ? atAims : what == 1 ? met : allHome;
    }

    public int count(int what) {
        switch (what) {
            case 0:
                return now.roads.size;
            case 1:
                return now.folk.size;
            case 2:
                return ruleCount;
            case 3:
                return now.roads.directions;
            case 4:
                return now.goings;
            case 5:
                return now.clock;
            case 6:
                return now.met;
            case 7:
                return now.listed;
            case 8:
                return now.x;
            case 9:
                return tape.length;
            default:
                return NONE;
        }
    }

    public int image(int k) {
        if (k < 0 || k >= MOST_IMAGES) {
            return NONE;
        }
        if (images[k] == null) {
            images[k] = new State();
        }
        images[k].copyFrom(now);
        return now.clock;
    }

    public int back(int k) {
        if (k < 0 || k >= MOST_IMAGES || images[k] == null) {
            return NONE;
        }
        now.copyFrom(images[k]);
        return now.clock;
    }

    private static boolean isPlace(int place) {
        return place >= 0 && place < PLACES;
    }

    /** The number of the lowest bit that is 1 (of some). */
    private static int lowestBit(int bits) {
        return Integer.bitCount((bits & -bits) - 1);
    }

    private boolean isRule(int rule) {
        return rule >= 0 && rule < ruleCount && rules[rule] != null;
    }

    private boolean canSearch(int goers) {
        if (goers < 1 || goers >= 1 << now.folk.size || (goers & ~now.folk.standing()) != 0) {
            return false;
        }
        return now.roads.size + 3 * Integer.bitCount(goers) <= Search.MOST_BITS;
    }

    private boolean canCircle(int goer) {
        return now.folk.stands(goer) && now.folk.busyWays() == 0;
    }

    private boolean helps(int decoySet, int goer) {
        search.begin(decoySet | 1 << goer);
        return search.canReachAim(goer);
    }

    /** How many WAYS should lead away from each PLACE so that KEPT stays as it is with the set at its aims. */
    private long outwardsAtAims(int goers) {
        long outwards = now.roads.outwards();
        for (int goer = 0; goer < now.folk.size; goer++) {
            if ((goers >> goer & 1) != 0) {
                outwards += Roads.unit(now.folk.aim[goer]) - Roads.unit(now.folk.place[goer]);
            }
        }
        return outwards;
    }

    /** The STATE behind the ROW's k-th GOING and the next one, in this order or the other one; NONE: it can't be. */
    private long stateBehind(int k, boolean changed) {
        spare.copyFrom(now);
        if (k < 0 || k + 1 >= now.listed) {
            return NONE;
        }
        if (changed) {
            spare.list[k] = now.list[k + 1];
            spare.list[k + 1] = now.list[k];
        }
        return spare.follow(k + 2) == k + 2 ? spare.packed() : NONE;
    }

    /** The bytes that were fed, and a reader's place among them. */
    private static final class Tape {
        static final int WAY = 0;
        static final int MINUTES = 1;
        static final int GONE = 2;
        static final int LAST = 3;
        static final int TO = 4;
        static final int FAR = 5;
        static final int OUT = 6;
        static final int THERE = 7;
        static final int GOER = 8;
        static final int AIM = 9;
        static final int CLOCK = 10;
        static final int ON = 11;
        static final int TAKE = 12;
        static final int WAIT = 13;
        static final int IF = 14;
        static final int AND = 15;
        static final int OR = 16;
        static final int NOT = 17;

        private static final int WORD_COUNT = 18;
        private static final int SLOT = 8;
        /** The words in slots of one width, each by its number above: nothing is made anew to look one up. */
        private static final String WORDS =
            "way     minutes gone    last    to      far     out     there   goer    aim     clock   on      take    wait    if      and     or      not     ";

        static final int CANNOT_STAND = 0;
        static final int BAD_NUMBER = 1;
        static final int TOO_DEEP = 2;
        static final int TOO_MANY_VALUES = 3;
        static final int TOO_MANY_CLAUSES = 4;

        private static final int MOST_DIGITS = 5;

        final int[] bytes = new int[MOST_BYTES];
        int length = 0;
        int at = 0;
        int fault = 0;
        int number = 0;
        private int wordEnd = 0;

        void put(int four) {
            for (int shift = 24; shift >= 0 && length < MOST_BYTES; shift -= 8) {
                bytes[length] = four >> shift & 255;
                length++;
            }
        }

        void begin() {
            at = 0;
            fault = 0;
        }

        /** Goes over blanks: the byte there, NONE at the end. */
        int seen() {
            while (at < length && bytes[at] == ' ') {
                at++;
            }
            return at < length ? bytes[at] : NONE;
        }

        boolean fail(int place, int kind) {
            fault = 1 + 8 * place + kind;
            return false;
        }

        /** Goes over blanks, then tells which word stands there (NONE: no known one); it is not gone over. */
        int word() {
            seen();
            wordEnd = at;
            while (wordEnd < length && bytes[wordEnd] >= 'a' && bytes[wordEnd] <= 'z') {
                wordEnd++;
            }
            if (wordEnd == at || wordEnd - at >= SLOT) {
                return NONE;
            }
            for (int word = 0; word < WORD_COUNT; word++) {
                if (isWord(word * SLOT, wordEnd - at)) {
                    return word;
                }
            }
            return NONE;
        }

        void passWord() {
            at = wordEnd;
        }

        private boolean isWord(int slot, int letters) {
            for (int i = 0; i < letters; i++) {
                if (WORDS.charAt(slot + i) != bytes[at + i]) {
                    return false;
                }
            }
            return WORDS.charAt(slot + letters) == ' ';
        }

        /** Reads a NUMBER from least to most into number. */
        boolean readNumber(int least, int most) {
            seen();
            int begin = at;
            int value = 0;
            while (at < length && bytes[at] >= '0' && bytes[at] <= '9') {
                if (at - begin < MOST_DIGITS) {
                    value = value * 10 + bytes[at] - '0';
                }
                at++;
            }
            if (at == begin) {
                return fail(begin, CANNOT_STAND);
            }
            if (at - begin > MOST_DIGITS || value < least || value > most) {
                return fail(begin, BAD_NUMBER);
            }
            number = value;
            return true;
        }
    }

    /** Reads a LAND off the tape. */
    private static final class LandReader {
        private static final int MOST_CLAUSES = 24;

        private LandReader() {
        }

        /** Its FAULT, 0 if there is none; into is the LAND then, and worth nothing else. */
        static int read(Tape tape, State into) {
            tape.begin();
            into.clear();
            for (int clauses = 0; clauses <= MOST_CLAUSES; clauses++) {
                if (!readClause(tape, into, clauses)) {
                    return tape.fault;
                }
                int sign = tape.seen();
                if (sign == NONE) {
                    return 0;
                }
                if (sign != ';') {
                    tape.fail(tape.at, Tape.CANNOT_STAND);
                    return tape.fault;
                }
                tape.at++;
            }
            return tape.fault;
        }

        private static boolean readClause(Tape tape, State into, int clauses) {
            int word = tape.word();
            if (word != Tape.WAY && word != Tape.GOER) {
                return tape.fail(tape.at, Tape.CANNOT_STAND);
            }
            boolean full = word == Tape.WAY ? into.roads.size >= MOST_WAYS : into.folk.size >= MOST_GOERS;
            if (full || clauses >= MOST_CLAUSES) {
                return tape.fail(tape.at, Tape.TOO_MANY_CLAUSES);
            }
            tape.passWord();
            return word == Tape.WAY ? readWay(tape, into.roads) : readGoer(tape, into.folk);
        }

        private static boolean readWay(Tape tape, Roads roads) {
            if (!tape.readNumber(0, PLACES - 1)) {
                return false;
            }
            int from = tape.number;
            tape.seen();
            int secondAt = tape.at;
            if (!tape.readNumber(0, PLACES - 1)) {
                return false;
            }
            int to = tape.number;
            if (to == from) {
                return tape.fail(secondAt, Tape.BAD_NUMBER);
            }
            if (!tape.readNumber(1, 60)) {
                return false;
            }
            roads.add(from, to, tape.number);
            return true;
        }

        private static boolean readGoer(Tape tape, Folk folk) {
            if (!tape.readNumber(0, PLACES - 1)) {
                return false;
            }
            int place = tape.number;
            if (!tape.readNumber(0, PLACES - 1)) {
                return false;
            }
            int aim = tape.number;
            if (!tape.readNumber(0, 999)) {
                return false;
            }
            folk.add(place, aim, tape.number);
            return true;
        }
    }

    /** A RULE in an order in which each sign stands behind what it joins; words and signs are below 0. */
    private static final class Rule {
        static final int MOST_CLAUSES = 12;
        /** A word is coded as this less its number. */
        static final int FIRST_WORD = -1;
        static final int PLUS = -21;
        static final int MINUS = -22;
        static final int TIMES = -23;
        static final int BY = -24;
        static final int LESS = -25;
        static final int AT_MOST = -26;
        static final int SAME = -27;
        static final int AT_LEAST = -28;
        static final int MORE = -29;
        static final int BOTH = -30;
        static final int EITHER = -31;
        static final int NOT = -32;

        final int[] code;
        /** Of each CLAUSE where it begins, where its TEST begins, and where it ends. */
        final int[] bounds;
        final int clauses;
        /** Bits: which CLAUSES are wait. */
        final int waits;
        /** Bits: which words stand in it. */
        final int words;

        Rule(int[] code, int[] bounds, int clauses, int waits) {
            this.code = code;
            this.bounds = bounds;
            this.clauses = clauses;
            this.waits = waits;
            int found = 0;
            for (int i = 0; i < code.length; i++) {
                boolean isWord = code[i] < 0 && code[i] > PLUS;
                found |= isWord ? 1 << FIRST_WORD - code[i] : 0;
            }
            words = found;
        }

        int begin(int clause) {
            return bounds[3 * clause];
        }

        int split(int clause) {
            return bounds[3 * clause + 1];
        }

        int close(int clause) {
            return bounds[3 * clause + 2];
        }

        boolean isWait(int clause) {
            return (waits >> clause & 1) != 0;
        }

        boolean uses(int word) {
            return (words >> word & 1) != 0;
        }

        boolean hasTest(int clause) {
            return split(clause) < close(clause);
        }
    }

    /** Reads a RULE off the tape. */
    private static final class RuleReader {
        private static final int MOST_DEEP = 10;
        private static final int MOST_VALUES = 60;

        private final Tape tape;
        /** No byte of the tape makes more than one code. */
        private final int[] code = new int[MOST_BYTES];
        private final int[] bounds = new int[3 * Rule.MOST_CLAUSES];
        private int coded = 0;
        private int values = 0;

        RuleReader(Tape tape) {
            this.tape = tape;
        }

        /** The RULE; null if there is a FAULT, which the tape has then. */
        Rule read() {
            tape.begin();
            coded = 0;
            values = 0;
            int waits = 0;
            for (int clause = 0; clause <= Rule.MOST_CLAUSES; clause++) {
                int word = tape.word();
                boolean known = word == Tape.TAKE || word == Tape.WAIT;
                if (!known || clause >= Rule.MOST_CLAUSES) {
                    tape.fail(tape.at, known ? Tape.TOO_MANY_CLAUSES : Tape.CANNOT_STAND);
                    return null;
                }
                tape.passWord();
                bounds[3 * clause] = coded;
                if (word == Tape.TAKE && !readSum()) {
                    return null;
                }
                bounds[3 * clause + 1] = coded;
                boolean tested = word == Tape.WAIT;
                if (!tested && tape.word() == Tape.IF) {
                    tape.passWord();
                    tested = true;
                }
                if (tested && !readTest(0)) {
                    return null;
                }
                bounds[3 * clause + 2] = coded;
                waits |= word == Tape.WAIT ? 1 << clause : 0;
                int sign = tape.seen();
                if (sign == NONE) {
                    return made(clause + 1, waits);
                }
                if (sign != ';') {
                    tape.fail(tape.at, Tape.CANNOT_STAND);
                    return null;
                }
                tape.at++;
            }
            return null;
        }

        private Rule made(int clauses, int waits) {
            int[] ownCode = new int[coded];
            System.arraycopy(code, 0, ownCode, 0, coded);
            int[] ownBounds = new int[3 * clauses];
            System.arraycopy(bounds, 0, ownBounds, 0, 3 * clauses);
            return new Rule(ownCode, ownBounds, clauses, waits);
        }

        /** And binds closer than or: an or is coded when the PART behind it has come to its end. */
        private boolean readTest(int depth) {
            boolean andOpen = false;
            boolean orOpen = false;
            for (int facts = 0; facts < MOST_BYTES; facts++) {
                if (!readFact(depth)) {
                    return false;
                }
                if (andOpen) {
                    emit(Rule.BOTH);
                }
                int word = tape.word();
                andOpen = word == Tape.AND;
                if (!andOpen && orOpen) {
                    emit(Rule.EITHER);
                    orOpen = false;
                }
                if (word != Tape.AND && word != Tape.OR) {
                    return true;
                }
                orOpen |= word == Tape.OR;
                tape.passWord();
            }
            return tape.fail(tape.at, Tape.CANNOT_STAND);
        }

        private boolean readFact(int depth) {
            boolean isNot = tape.word() == Tape.NOT;
            boolean opens = tape.seen() == '[';
            if ((isNot || opens) && depth >= MOST_DEEP) {
                return tape.fail(tape.at, Tape.TOO_DEEP);
            }
            if (isNot) {
                tape.passWord();
                if (!readFact(depth + 1)) {
                    return false;
                }
                emit(Rule.NOT);
                return true;
            }
            if (opens) {
                tape.at++;
                if (!readTest(depth + 1)) {
                    return false;
                }
                if (tape.seen() != ']') {
                    return tape.fail(tape.at, Tape.CANNOT_STAND);
                }
                tape.at++;
                return true;
            }
            if (!readSum()) {
                return false;
            }
            int comparison = readSign();
            if (comparison == 0 || !readSum()) {
                return false;
            }
            emit(comparison);
            return true;
        }

        /** The code of the SIGN that stands there; 0 if there is a FAULT. */
        private int readSign() {
            int sign = tape.seen();
            if (sign != '<' && sign != '=' && sign != '>') {
                tape.fail(tape.at, Tape.CANNOT_STAND);
                return 0;
            }
            if (values >= MOST_VALUES) {
                tape.fail(tape.at, Tape.TOO_MANY_VALUES);
                return 0;
            }
            values++;
            tape.at++;
            boolean orSame = sign != '=' && tape.at < tape.length && tape.bytes[tape.at] == '=';
            tape.at += orSame ? 1 : 0;
            if (sign == '=') {
                return Rule.SAME;
            }
            if (sign == '<') {
                return orSame ? Rule.AT_MOST : Rule.LESS;
            }
            return orSame ? Rule.AT_LEAST : Rule.MORE;
        }

        /** A plus or minus is coded when the TERM behind it has come to its end, a times or by at once. */
        private boolean readSum() {
            int plusOpen = 0;
            int timesOpen = 0;
            for (int read = 0; read < MOST_BYTES; read++) {
                if (!readValue()) {
                    return false;
                }
                if (timesOpen != 0) {
                    emit(timesOpen);
                }
                int sign = tape.seen();
                timesOpen = sign == '*' ? Rule.TIMES : sign == '/' ? Rule.BY : 0;
                if (timesOpen == 0) {
                    if (plusOpen != 0) {
                        emit(plusOpen);
                    }
                    plusOpen = sign == '+' ? Rule.PLUS : sign == '-' ? Rule.MINUS : 0;
                    if (plusOpen == 0) {
                        return true;
                    }
                }
                tape.at++;
            }
            return tape.fail(tape.at, Tape.CANNOT_STAND);
        }

        private boolean readValue() {
            int sign = tape.seen();
            int begin = tape.at;
            int coding;
            if (sign >= '0' && sign <= '9') {
                if (!tape.readNumber(0, 99999)) {
                    return false;
                }
                coding = tape.number;
            } else {
                int word = tape.word();
                if (word < Tape.WAY || word > Tape.ON) {
                    return tape.fail(begin, Tape.CANNOT_STAND);
                }
                tape.passWord();
                coding = Rule.FIRST_WORD - word;
            }
            if (values >= MOST_VALUES) {
                return tape.fail(begin, Tape.TOO_MANY_VALUES);
            }
            values++;
            emit(coding);
            return true;
        }

        private void emit(int coding) {
            if (coded < code.length) {
                code[coded] = coding;
                coded++;
            }
        }
    }

    /** The WAYS and how they lead. */
    private static final class Roads {
        int size = 0;
        int directions = 0;
        final int[] first = new int[MOST_WAYS];
        final int[] second = new int[MOST_WAYS];
        final int[] minutes = new int[MOST_WAYS];
        final int[] gone = new int[MOST_WAYS];
        final int[] last = new int[MOST_WAYS];
        /** Of each PLACE the WAYS (bits) told as leading from it, and as leading to it. */
        final int[] outward = new int[PLACES];
        final int[] inward = new int[PLACES];

        void clear() {
            size = 0;
            directions = 0;
            for (int place = 0; place < PLACES; place++) {
                outward[place] = 0;
                inward[place] = 0;
            }
        }

        void add(int from, int to, int minutesOfIt) {
            if (size >= MOST_WAYS || !isPlace(from) || !isPlace(to)) {
                return;
            }
            first[size] = from;
            second[size] = to;
            minutes[size] = minutesOfIt;
            gone[size] = 0;
            last[size] = 0;
            outward[from] |= 1 << size;
            inward[to] |= 1 << size;
            size++;
        }

        void copyFrom(Roads other) {
            size = other.size;
            directions = other.directions;
            System.arraycopy(other.first, 0, first, 0, size);
            System.arraycopy(other.second, 0, second, 0, size);
            System.arraycopy(other.minutes, 0, minutes, 0, size);
            System.arraycopy(other.gone, 0, gone, 0, size);
            System.arraycopy(other.last, 0, last, 0, size);
            System.arraycopy(other.outward, 0, outward, 0, PLACES);
            System.arraycopy(other.inward, 0, inward, 0, PLACES);
        }

        boolean has(int way) {
            return way >= 0 && way < size;
        }

        int allDirections() {
            return 1 << size;
        }

        int tail(int way) {
            return (directions >> way & 1) == 0 ? first[way] : second[way];
        }

        int head(int way) {
            return (directions >> way & 1) == 0 ? second[way] : first[way];
        }

        /** The WAYS (bits) that lead away from a PLACE. */
        int away(int place) {
            return outward[place] & ~directions | inward[place] & directions;
        }

        /** The WAYS (bits) that lead to a PLACE. */
        int hither(int place) {
            return inward[place] & ~directions | outward[place] & directions;
        }

        /** These PLACES (bits) and those that one WAY more leads to. */
        private int spread(int places) {
            int wider = places;
            for (int way = 0; way < size; way++) {
                if ((places >> tail(way) & 1) != 0) {
                    wider |= 1 << head(way);
                }
            }
            return wider;
        }

        int reach(int place) {
            int places = 1 << place;
            for (int ways = 1; ways < PLACES; ways++) {
                places = spread(places);
            }
            return places;
        }

        /** FAR; NONE if there is none. */
        int distance(int from, int to) {
            int places = 1 << from;
            for (int ways = 0; ways < PLACES; ways++) {
                if ((places >> to & 1) != 0) {
                    return ways;
                }
                places = spread(places);
            }
            return NONE;
        }

        /** One WAY that leads away from a PLACE, as outwards counts it. */
        static long unit(int place) {
            return place >= 0 && place < PLACES ? 1L << 8 * place : 0L;
        }

        /** How many WAYS lead away from each PLACE, a byte for each: none comes near a byte's end. */
        long outwards() {
            long sum = 0;
            for (int way = 0; way < size; way++) {
                sum += unit(tail(way));
            }
            return sum;
        }

        /** How many DIRECTIONS have so many WAYS leading away from each PLACE: gone through turning one WAY at a time. */
        int directionsOf(long wanted) {
            int found = 0;
            long sum = 0;
            int turned = 0;
            for (int way = 0; way < size; way++) {
                sum += unit(first[way]);
            }
            for (int n = 1; n <= 1 << size; n++) {
                if (sum == wanted) {
                    found++;
                }
                int way = lowestBit(n);
                if (way < size) {
                    long change = unit(second[way]) - unit(first[way]);
                    sum += (turned >> way & 1) == 0 ? change : -change;
                    turned ^= 1 << way;
                }
            }
            return found;
        }
    }

    /** The GOERS, where they are and what they want. */
    private static final class Folk {
        int size = 0;
        final int[] place = new int[MOST_GOERS];
        final int[] aim = new int[MOST_GOERS];
        final int[] leaves = new int[MOST_GOERS];
        final int[] on = new int[MOST_GOERS];
        final int[] spent = new int[MOST_GOERS];
        final int[] heading = new int[MOST_GOERS];
        final int[] home = new int[MOST_GOERS];

        void add(int hisPlace, int hisAim, int leavesAt) {
            if (size >= MOST_GOERS) {
                return;
            }
            place[size] = hisPlace;
            aim[size] = hisAim;
            leaves[size] = leavesAt;
            on[size] = NONE;
            spent[size] = 0;
            heading[size] = NONE;
            home[size] = hisPlace == hisAim ? 0 : NONE;
            size++;
        }

        void copyFrom(Folk other) {
            size = other.size;
            System.arraycopy(other.place, 0, place, 0, size);
            System.arraycopy(other.aim, 0, aim, 0, size);
            System.arraycopy(other.leaves, 0, leaves, 0, size);
            System.arraycopy(other.on, 0, on, 0, size);
            System.arraycopy(other.spent, 0, spent, 0, size);
            System.arraycopy(other.heading, 0, heading, 0, size);
            System.arraycopy(other.home, 0, home, 0, size);
        }

        boolean has(int goer) {
            return goer >= 0 && goer < size;
        }

        boolean stands(int goer) {
            return has(goer) && on[goer] == NONE;
        }

        /** The GOERS (bits) that stand. */
        int standing() {
            int bits = 0;
            for (int goer = 0; goer < size; goer++) {
                bits |= on[goer] == NONE ? 1 << goer : 0;
            }
            return bits;
        }

        /** The WAYS (bits) on which someone is. */
        int busyWays() {
            int bits = 0;
            for (int goer = 0; goer < size; goer++) {
                bits |= on[goer] == NONE ? 0 : 1 << on[goer];
            }
            return bits;
        }

        int countOn(int way) {
            int found = 0;
            for (int goer = 0; goer < size; goer++) {
                found += on[goer] == way ? 1 : 0;
            }
            return found;
        }

        int countAt(int here) {
            int found = 0;
            for (int goer = 0; goer < size; goer++) {
                found += place[goer] == here ? 1 : 0;
            }
            return found;
        }

        int atAims() {
            int found = 0;
            for (int goer = 0; goer < size; goer++) {
                found += place[goer] == aim[goer] ? 1 : 0;
            }
            return found;
        }

        boolean allAtAims() {
            return atAims() == size;
        }

        void enter(int goer, int way, int to) {
            place[goer] = ON_A_WAY;
            on[goer] = way;
            spent[goer] = 0;
            heading[goer] = to;
        }

        void stand(int goer, int here, int clock) {
            place[goer] = here;
            on[goer] = NONE;
            spent[goer] = 0;
            heading[goer] = NONE;
            if (here == aim[goer] && home[goer] == NONE) {
                home[goer] = clock;
            }
        }

        /** How many twos are on one WAY, each going to another end. */
        int meetings() {
            int found = 0;
            for (int goer = 1; goer < size; goer++) {
                for (int other = 0; other < goer && on[goer] != NONE; other++) {
                    found += on[other] == on[goer] && heading[other] != heading[goer] ? 1 : 0;
                }
            }
            return found;
        }
    }

    /** All that an IMAGE holds. */
    private static final class State {
        final Roads roads = new Roads();
        final Folk folk = new Folk();
        int goings = 0;
        int clock = 0;
        int met = 0;
        int x = 0;
        int listed = 0;
        /** The ROW: 16 * GOER + WAY each. */
        final int[] list = new int[MOST_IN_ROW];

        void clear() {
            roads.clear();
            folk.size = 0;
            goings = 0;
            clock = 0;
            met = 0;
            x = 0;
            listed = 0;
        }

        void copyFrom(State other) {
            roads.copyFrom(other.roads);
            folk.copyFrom(other.folk);
            goings = other.goings;
            clock = other.clock;
            met = other.met;
            x = other.x;
            listed = other.listed;
            System.arraycopy(other.list, 0, list, 0, listed);
        }

        boolean canMove(int goer, int way) {
            return folk.stands(goer) && roads.has(way)
                && roads.tail(way) == folk.place[goer] && folk.countOn(way) == 0;
        }

        void move(int goer, int way) {
            folk.stand(goer, roads.head(way), clock);
            noteGoing(way);
        }

        /** A GOING by the WAY has come to its end. */
        void noteGoing(int way) {
            goings++;
            roads.directions ^= 1 << way;
            roads.gone[way]++;
            roads.last[way] = goings;
        }

        /** Goes by the ROW's first n GOINGS till one can't be done: how many could. */
        int follow(int n) {
            int count = Math.min(n, listed);
            for (int i = 0; i < count; i++) {
                int goer = list[i] >> 4;
                int way = list[i] & 15;
                if (!canMove(goer, way)) {
                    return i;
                }
                move(goer, way);
            }
            return count;
        }

        /** DIRECTIONS and where all are, in one number. */
        long packed() {
            long sum = roads.directions;
            for (int goer = 0; goer < folk.size; goer++) {
                sum = sum << 4 | folk.place[goer];
            }
            return sum;
        }

        void drawLeaves() {
            for (int goer = 0; goer < folk.size; goer++) {
                x = x * 1103515245 + 12345 & 2147483647;
                folk.leaves[goer] += x / 65536 % 60;
            }
        }
    }

    /** MINUTES by a RULE. */
    private static final class Minutes {
        private static final int NO_PATH = 15;

        private final long[] stack = new long[64];
        /** Of each aim FAR from each PLACE (four bits each), and the DIRECTIONS for which that was found out. */
        private final int[] farTo = new int[PLACES];
        private final int[] farWhen = new int[PLACES];
        private State state = null;
        private Rule rule = null;
        /** What each word of the RULE is worth, for one GOER and one WAY (or his PLACE, in wait). */
        private final long[] words = new long[Tape.ON + 1];
        private int goer = 0;

        void pass(State whose, Rule by, int n) {
            if (whose == null || by == null) {
                return;
            }
            state = whose;
            rule = by;
            for (int place = 0; place < PLACES; place++) {
                farWhen[place] = NONE;
            }
            for (int minute = 0; minute < n; minute++) {
                if (!state.folk.allAtAims()) {
                    arrive();
                    setOut();
                    state.met += state.folk.meetings();
                }
                state.clock = Math.min(state.clock + 1, MOST_CLOCK);
            }
        }

        private void arrive() {
            Folk folk = state.folk;
            int behind = Math.min(state.clock + 1, MOST_CLOCK);
            for (int who = 0; who < folk.size; who++) {
                int by = folk.on[who];
                if (by == NONE) {
                    continue;
                }
                folk.spent[who]++;
                if (folk.spent[who] >= state.roads.minutes[by]) {
                    folk.stand(who, folk.heading[who], behind);
                    state.noteGoing(by);
                }
            }
        }

        private void setOut() {
            Folk folk = state.folk;
            for (int who = 0; who < folk.size; who++) {
                boolean wants = folk.on[who] == NONE && folk.place[who] != folk.aim[who]
                    && state.clock >= folk.leaves[who];
                if (!wants) {
                    continue;
                }
                goer = who;
                words[Tape.GOER] = who;
                words[Tape.AIM] = folk.aim[who];
                words[Tape.CLOCK] = state.clock;
                if (rule.uses(Tape.FAR)) {
                    findFar(folk.aim[who]);
                }
                int chosen = waits() ? NONE : choose();
                if (chosen != NONE) {
                    folk.enter(who, chosen, state.roads.head(chosen));
                }
            }
        }

        private boolean waits() {
            if (rule.waits == 0) {
                return false;
            }
            lookAtPlace(state.folk.place[goer]);
            words[Tape.WAY] = 0;
            words[Tape.MINUTES] = 0;
            words[Tape.GONE] = 0;
            words[Tape.LAST] = 0;
            words[Tape.ON] = 0;
            for (int clause = 0; clause < rule.clauses; clause++) {
                if (rule.isWait(clause) && evaluate(rule.split(clause), rule.close(clause)) != 0) {
                    return true;
                }
            }
            return false;
        }

        /** The WAY with the greatest take; NONE if none is taken. */
        private int choose() {
            int chosen = NONE;
            long greatest = 0;
            int ways = state.roads.away(state.folk.place[goer]);
            for (int by = 0; by < state.roads.size; by++) {
                if ((ways >> by & 1) == 0) {
                    continue;
                }
                lookAtPlace(state.roads.head(by));
                lookAtWay(by);
                int clause = takeClause();
                if (clause == NONE) {
                    continue;
                }
                long take = evaluate(rule.begin(clause), rule.split(clause));
                if (chosen == NONE || take > greatest) {
                    chosen = by;
                    greatest = take;
                }
            }
            return chosen;
        }

        private int takeClause() {
            for (int clause = 0; clause < rule.clauses; clause++) {
                if (rule.isWait(clause)) {
                    continue;
                }
                if (!rule.hasTest(clause) || evaluate(rule.split(clause), rule.close(clause)) != 0) {
                    return clause;
                }
            }
            return NONE;
        }

        /** What a piece of the RULE is worth; of a TEST 1 if it holds, else 0. */
        private long evaluate(int from, int to) {
            int[] code = rule.code;
            int height = 0;
            for (int i = from; i < to && i < code.length; i++) {
                int coding = code[i];
                if (coding > Rule.PLUS) {
                    if (height < stack.length) {
                        stack[height] = coding >= 0 ? coding : words[Rule.FIRST_WORD - coding];
                        height++;
                    }
                } else if (coding == Rule.NOT) {
                    if (height >= 1) {
                        stack[height - 1] = 1 - stack[height - 1];
                    }
                } else if (height >= 2) {
                    height--;
                    stack[height - 1] = joined(coding, stack[height - 1], stack[height]);
                }
            }
            return height > 0 ? stack[0] : 0;
        }

        private static long joined(int sign, long a, long b) {
            switch (sign) {
                case Rule.PLUS:
                    return a + b;
                case Rule.MINUS:
                    return a - b;
                case Rule.TIMES:
                    return a * b;
                case Rule.BY:
                    return b == 0 ? 0 : a / b;
                case Rule.LESS:
                    return a < b ? 1 : 0;
                case Rule.AT_MOST:
                    return a <= b ? 1 : 0;
                case Rule.SAME:
                    return a == b ? 1 : 0;
                case Rule.AT_LEAST:
                    return a >= b ? 1 : 0;
                case Rule.MORE:
                    return a > b ? 1 : 0;
                case Rule.BOTH:
                    return a & b;
                default:
                    return a | b;
            }
        }

        private void lookAtPlace(int place) {
            words[Tape.TO] = place;
            if (rule.uses(Tape.FAR)) {
                int far = farTo[state.folk.aim[goer]] >> 4 * place & 15;
                words[Tape.FAR] = far == NO_PATH ? FAR_AWAY : far;
            }
            if (rule.uses(Tape.OUT)) {
                words[Tape.OUT] = Integer.bitCount(state.roads.away(place));
            }
            if (rule.uses(Tape.THERE)) {
                words[Tape.THERE] = state.folk.countAt(place);
            }
        }

        private void lookAtWay(int way) {
            words[Tape.WAY] = way;
            words[Tape.MINUTES] = state.roads.minutes[way];
            words[Tape.GONE] = state.roads.gone[way];
            words[Tape.LAST] = state.roads.last[way];
            if (rule.uses(Tape.ON)) {
                words[Tape.ON] = state.folk.countOn(way);
            }
        }

        /** FAR to an aim, from all PLACES at once, backwards; once for the same DIRECTIONS. */
        private void findFar(int aim) {
            Roads roads = state.roads;
            if (farWhen[aim] == roads.directions) {
                return;
            }
            farWhen[aim] = roads.directions;
            int all = ~(NO_PATH << 4 * aim);
            int known = 1 << aim;
            for (int ways = 1; ways < PLACES; ways++) {
                int before = known;
                for (int by = 0; by < roads.size; by++) {
                    int from = roads.tail(by);
                    if ((before >> roads.head(by) & 1) != 0 && (known >> from & 1) == 0) {
                        known |= 1 << from;
                        all ^= (NO_PATH ^ ways) << 4 * from;
                    }
                }
            }
            farTo[aim] = all;
        }
    }

    /**
     * Goes through STATES, nearest first. A STATE is one number: DIRECTIONS, then three bits for each GOER of the
     * set, then (for a post) the PLACES he stood at.
     */
    private static final class Search {
        static final int MOST_BITS = 20;
        private static final int MOST_FAR = 1 << MOST_BITS;
        private static final int FIRST_QUEUE = 256;

        /** Two bits for each STATE: 0 not come to, else 1 + how far it is, mod 3. */
        private int[] marks = new int[0];
        private int[] queue = new int[0];
        private int queued = 0;
        /** Where in the queue the STATES come to last begin. */
        private int levelBegin = 0;
        private final int[] who = new int[MOST_GOERS];
        private int size = 0;
        private final Roads roads;
        private final Folk folk;
        private int ways = 0;
        /** The WAYS (bits) on which nobody is. */
        private int openWays = 0;
        private int start = 0;
        private int asked = 0;

        Search(State state) {
            roads = state.roads;
            folk = state.folk;
        }

        void begin(int goers) {
            ways = roads.size;
            openWays = ~folk.busyWays();
            asked = 0;
            size = 0;
            start = roads.directions;
            for (int goer = 0; goer < folk.size; goer++) {
                if ((goers >> goer & 1) != 0) {
                    who[size] = goer;
                    start |= (folk.place[goer] & 7) << shift(size);
                    size++;
                }
            }
        }

        int fewestGoings() {
            launch(start, shift(size));
            int goings = seek(places(), aims());
            forget();
            return goings;
        }

        /** 16 * GOER + WAY of the k-th GOING of the FIRST ROW; CANNOT if there is none. */
        int firstRow(int k) {
            launch(start, shift(size));
            int goal = aims();
            int goings = seek(places(), goal);
            if (k >= goings) {
                forget();
                return CANNOT;
            }
            turnRound(places(), goal);
            seek(NONE, start);
            int code = start;
            int found = CANNOT;
            for (int left = goings; left >= goings - k && left > 0; left--) {
                found = leastGoing(code, 1 + (left - 1) % 3);
                if (found < 0) {
                    break;
                }
                code = behind(code, found >> 4, found & 15);
            }
            forget();
            return found < 0 ? CANNOT : 16 * who[found >> 4] + (found & 15);
        }

        boolean comesTo(int directions) {
            launch(start, shift(size));
            int goings = seek(NONE, start & places() | directions);
            forget();
            return goings >= 0;
        }

        int closedDirections() {
            launch(start, shift(size));
            seek(0, 1);
            int places = places();
            int found = 0;
            for (int i = 0; i < queued; i++) {
                found += (queue[i] & places) == (start & places) ? 1 : 0;
            }
            forget();
            return found;
        }

        /** Wherever the others of the set stand then. */
        boolean canReachAim(int goer) {
            launch(start, shift(size));
            int at = 0;
            for (int member = 0; member < size; member++) {
                at = who[member] == goer ? shift(member) : at;
            }
            int goings = seek(7 << at, folk.aim[goer] << at);
            forget();
            return goings >= 0;
        }

        int postRound(int places, boolean back) {
            asked = places;
            int here = start >> ways & 7;
            int seenAt = shift(1);
            launch(start | (1 << here & places) << seenAt, seenAt + PLACES);
            int mask = 255 << seenAt | (back ? 7 << ways : 0);
            int goings = seek(mask, places << seenAt | (back ? here << ways : 0));
            forget();
            return goings;
        }

        private int shift(int member) {
            return ways + 3 * member;
        }

        /** The bits of a STATE that tell where the set stands. */
        private int places() {
            return (1 << shift(size)) - (1 << ways);
        }

        private int aims() {
            int code = 0;
            for (int member = 0; member < size; member++) {
                code |= folk.aim[who[member]] << shift(member);
            }
            return code;
        }

        private void launch(int code, int bits) {
            int words = (1 << Math.min(bits, MOST_BITS)) + 15 >> 4;
            if (marks.length < words) {
                marks = new int[words];
            }
            if (queue.length == 0) {
                queue = new int[FIRST_QUEUE];
            }
            queued = 0;
            levelBegin = 0;
            note(code, 1);
        }

        /** Leaves no mark behind, so that the marks can be used again. */
        private void forget() {
            for (int i = 0; i < queued; i++) {
                marks[queue[i] >> 4] = 0;
            }
            queued = 0;
        }

        private int mark(int code) {
            return marks[code >> 4] >> 2 * (code & 15) & 3;
        }

        private void note(int code, int mark) {
            marks[code >> 4] |= mark << 2 * (code & 15);
            if (queued == queue.length) {
                queue = Arrays.copyOf(queue, 2 * queued);
            }
            queue[queued] = code;
            queued++;
        }

        /** Begins again from those of the STATES come to last that are what was sought. */
        private void turnRound(int mask, int value) {
            int from = levelBegin;
            int to = queued;
            for (int i = 0; i < to; i++) {
                marks[queue[i] >> 4] = 0;
            }
            queued = 0;
            levelBegin = 0;
            for (int i = from; i < to; i++) {
                if ((queue[i] & mask) == value) {
                    note(queue[i], 1);
                }
            }
        }

        /** How far the nearest STATE is that has this value under the mask (NONE: none); its level is gone through. */
        private int seek(int mask, int value) {
            for (int i = 0; i < queued; i++) {
                if ((queue[i] & mask) == value) {
                    return 0;
                }
            }
            for (int far = 1; far < MOST_FAR && levelBegin < queued; far++) {
                int levelEnd = queued;
                for (int i = levelBegin; i < levelEnd; i++) {
                    spreadFrom(queue[i], 1 + far % 3);
                }
                levelBegin = levelEnd;
                for (int i = levelEnd; i < queued; i++) {
                    if ((queue[i] & mask) == value) {
                        return far;
                    }
                }
            }
            return NONE;
        }

        private void spreadFrom(int code, int mark) {
            for (int member = 0; member < size; member++) {
                int left = leading(code, member);
                for (int n = 0; n < MOST_WAYS && left != 0; n++) {
                    int next = behind(code, member, lowestBit(left));
                    left &= left - 1;
                    if (mark(next) == 0) {
                        note(next, mark);
                    }
                }
            }
        }

        /** The WAYS (bits) by which one of the set can go. */
        private int leading(int code, int member) {
            int place = code >> shift(member) & 7;
            return (roads.outward[place] & ~code | roads.inward[place] & code) & openWays;
        }

        /** The STATE behind a GOING: a WAY's ends tell by which bits the PLACE changes. */
        private int behind(int code, int member, int way) {
            int next = code ^ 1 << way ^ (roads.first[way] ^ roads.second[way]) << shift(member);
            if (asked != 0) {
                next |= (1 << (next >> ways & 7) & asked) << ways + 3;
            }
            return next;
        }

        /** The first GOING (16 * member + WAY) to a STATE with this mark; NONE if there is none. */
        private int leastGoing(int code, int mark) {
            for (int member = 0; member < size; member++) {
                int leading = leading(code, member);
                for (int way = 0; way < ways; way++) {
                    if ((leading >> way & 1) != 0 && mark(behind(code, member, way)) == mark) {
                        return 16 * member + way;
                    }
                }
            }
            return NONE;
        }
    }

    /** One GOER who takes what was not taken for longest. */
    private static final class Circle {
        int place = 0;
        int directions = 0;
        private final Roads roads;
        private final Folk folk;
        /** The WAYS, the one not gone by for longest first; fresh of them were never gone by. */
        private final int[] order = new int[MOST_WAYS];
        private int fresh = 0;
        /** Of each SITUATION gone through the order, and the PLACE with the DIRECTIONS. */
        private long[] orders = new long[0];
        private int[] spots = new int[0];

        Circle(State state) {
            roads = state.roads;
            folk = state.folk;
        }

        void begin(int goer) {
            place = folk.place[goer] & 7;
            directions = roads.directions;
            fresh = 0;
            for (int way = 0; way < roads.size; way++) {
                int at = way;
                while (at > 0 && roads.last[order[at - 1]] > roads.last[way]) {
                    order[at] = order[at - 1];
                    at--;
                }
                order[at] = way;
                fresh += roads.last[way] == 0 ? 1 : 0;
            }
        }

        /** Goes n paces, fewer if he stops: how many he went. */
        int run(int n) {
            for (int paces = 0; paces < n; paces++) {
                if (pace() == NONE) {
                    return paces;
                }
            }
            return n;
        }

        int pacesToCover() {
            int left = (1 << roads.size) - 1;
            for (int paces = 0; paces < MOST_PACES && left != 0; paces++) {
                int way = pace();
                if (way == NONE) {
                    return NONE;
                }
                left &= ~(1 << way);
                if (left == 0) {
                    return paces + 1;
                }
            }
            return left == 0 ? 0 : NONE;
        }

        /** How many paces the round has; NONE if there is none. If any SITUATION comes again, the last one does. */
        int findRound() {
            if (orders.length == 0) {
                orders = new long[MOST_PACES + 1];
                spots = new int[MOST_PACES + 1];
            }
            for (int paces = 0; paces <= MOST_PACES; paces++) {
                orders[paces] = packedOrder();
                spots[paces] = directions << 3 | place;
                if (paces < MOST_PACES && pace() == NONE) {
                    return NONE;
                }
            }
            for (int round = 1; round <= MOST_PACES; round++) {
                if (same(MOST_PACES - round, MOST_PACES)) {
                    return round;
                }
            }
            return NONE;
        }

        /** How many paces are ahead of a round that was found. */
        int aheadOfRound(int round) {
            for (int paces = 0; paces + round <= MOST_PACES; paces++) {
                if (same(paces, paces + round)) {
                    return paces;
                }
            }
            return NONE;
        }

        private boolean same(int one, int other) {
            return orders[one] == orders[other] && spots[one] == spots[other];
        }

        /** Four bits for each WAY and for how many have alike LASTS (one alone has an unlike one): 60 at most. */
        private long packedOrder() {
            long sum = fresh > 1 ? fresh : 0;
            for (int i = 0; i < roads.size; i++) {
                sum = sum << 4 | order[i];
            }
            return sum;
        }

        /** The WAY he took; NONE if none leads away. */
        private int pace() {
            int leading = roads.outward[place] & ~directions | roads.inward[place] & directions;
            for (int i = 0; i < roads.size; i++) {
                int way = order[i];
                if ((leading >> way & 1) != 0) {
                    fresh -= i < fresh ? 1 : 0;
                    for (int j = i + 1; j < roads.size; j++) {
                        order[j - 1] = order[j];
                    }
                    order[roads.size - 1] = way;
                    place ^= roads.first[way] ^ roads.second[way];
                    directions ^= 1 << way;
                    return way;
                }
            }
            return NONE;
        }
    }
}
