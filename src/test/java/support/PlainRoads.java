import java.util.ArrayDeque;
import java.util.ArrayList;
import java.util.Arrays;
import java.util.HashMap;
import java.util.HashSet;
import java.util.List;
import java.util.Map;
import java.util.Set;
import java.util.TreeMap;

/** The document once more, as slow and as plain as it can be told, with what the Java library has. */
final class PlainRoads {
    static final class Way {
        int first, second, minutes, gone, last;
        boolean turned;

        int from() { return turned ? second : first; }
        int to() { return turned ? first : second; }
        Way copy() {
            Way w = new Way();
            w.first = first; w.second = second; w.minutes = minutes; w.gone = gone; w.last = last; w.turned = turned;
            return w;
        }
    }

    static final class Goer {
        int place, aim, leaves, way = -1, spent, home = -1, heading = -1;

        Goer copy() {
            Goer g = new Goer();
            g.place = place; g.aim = aim; g.leaves = leaves; g.way = way; g.spent = spent; g.home = home; g.heading = heading;
            return g;
        }
    }

    static final class World {
        List<Way> ways = new ArrayList<>();
        List<Goer> goers = new ArrayList<>();
        List<int[]> row = new ArrayList<>();
        int goings, clock, met, x;

        World copy() {
            World w = new World();
            for (Way a : ways) { w.ways.add(a.copy()); }
            for (Goer g : goers) { w.goers.add(g.copy()); }
            for (int[] r : row) { w.row.add(r.clone()); }
            w.goings = goings; w.clock = clock; w.met = met; w.x = x;
            return w;
        }

        int directions() {
            int d = 0;
            for (int i = 0; i < ways.size(); i++) { if (ways.get(i).turned) { d += 1 << i; } }
            return d;
        }

        void turn(int d) {
            for (int i = 0; i < ways.size(); i++) { ways.get(i).turned = (d >> i) % 2 == 1; }
        }

        int out(int p) { int n = 0; for (Way w : ways) { if (w.from() == p) { n++; } } return n; }
        int in(int p) { int n = 0; for (Way w : ways) { if (w.to() == p) { n++; } } return n; }
        int there(int p) { int n = 0; for (Goer g : goers) { if (g.way < 0 && g.place == p) { n++; } } return n; }
        int kept(int p) { return out(p) - there(p); }
        int on(int way) { int n = 0; for (Goer g : goers) { if (g.way == way) { n++; } } return n; }
        boolean anyOn() { for (Goer g : goers) { if (g.way >= 0) { return true; } } return false; }

        int far(int a, int b) {
            int[] d = new int[8];
            Arrays.fill(d, 1000);
            d[a] = 0;
            for (int round = 0; round < 8; round++) {
                for (Way w : ways) { d[w.to()] = Math.min(d[w.to()], d[w.from()] + 1); }
            }
            return d[b] >= 1000 ? -2 : d[b];
        }

        boolean canGo(int goer, int way) {
            if (goer < 0 || goer >= goers.size() || way < 0 || way >= ways.size()) { return false; }
            return goers.get(goer).way < 0 && ways.get(way).from() == goers.get(goer).place && on(way) == 0;
        }

        void go(int goer, int way) {
            Goer g = goers.get(goer);
            Way w = ways.get(way);
            g.place = w.to();
            if (g.place == g.aim && g.home < 0) { g.home = clock; }
            w.turned = !w.turned;
            w.gone++;
            goings++;
            w.last = goings;
        }

        int atAims() { int n = 0; for (Goer g : goers) { if (g.way < 0 && g.place == g.aim) { n++; } } return n; }

        String told() {
            StringBuilder b = new StringBuilder();
            b.append(directions());
            for (Goer g : goers) { b.append('/').append(g.place); }
            return b.toString();
        }
    }

    // ---- texts: told as a tree ----

    static final class Fault extends RuntimeException {
        private static final long serialVersionUID = 1L;
        final int code;
        Fault(int place, int kind) { code = 1 + 8 * place + kind; }
    }

    static final class Token {
        int place;
        char kind; // 'w' word, 'n' number, 'e' end, else the sign itself; 'l' '<=' and 'g' '>='
        String text;
    }

    static List<Token> tokens(String text) {
        List<Token> list = new ArrayList<>();
        int i = 0;
        while (i < text.length()) {
            char c = text.charAt(i);
            if (c == ' ') { i++; continue; }
            Token t = new Token();
            t.place = i;
            int j = i + 1;
            if (c >= 'a' && c <= 'z') {
                while (j < text.length() && text.charAt(j) >= 'a' && text.charAt(j) <= 'z') { j++; }
                t.kind = 'w';
            } else if (c >= '0' && c <= '9') {
                while (j < text.length() && text.charAt(j) >= '0' && text.charAt(j) <= '9') { j++; }
                t.kind = 'n';
            } else if ((c == '<' || c == '>') && j < text.length() && text.charAt(j) == '=') {
                j++;
                t.kind = c == '<' ? 'l' : 'g';
            } else if ("[];<>=+-*/".indexOf(c) >= 0) {
                t.kind = c;
            } else {
                t.kind = '?';
            }
            t.text = text.substring(i, j);
            list.add(t);
            i = j;
        }
        Token e = new Token();
        e.place = text.length();
        e.kind = 'e';
        e.text = "";
        list.add(e);
        return list;
    }

    static final class Tree {
        String kind; // number, word, + - * /, < l = g >, and, or, not
        long number;
        Tree a, b;
        Tree(String kind, Tree a, Tree b) { this.kind = kind; this.a = a; this.b = b; }
    }

    static final class Clause {
        boolean wait;
        Tree sum, test;
    }

    static final class Reader {
        final List<Token> tokens;
        int at, used;
        Reader(String text) { tokens = tokens(text); }
        Token peek() { return tokens.get(at); }
        boolean isWord(String w) { return peek().kind == 'w' && peek().text.equals(w); }
        Fault cannot() { return new Fault(peek().place, 0); }

        int number(int least, int most) {
            Token t = peek();
            if (t.kind != 'n') { throw cannot(); }
            if (t.text.length() > 5) { throw new Fault(t.place, 1); }
            int n = Integer.parseInt(t.text);
            if (n < least || n > most) { throw new Fault(t.place, 1); }
            at++;
            return n;
        }

        World land() {
            World w = new World();
            for (int clause = 0;; clause++) {
                boolean way = isWord("way");
                if (!way && !isWord("goer")) { throw cannot(); }
                if (clause == 24 || (way ? w.ways.size() == 14 : w.goers.size() == 6)) { throw new Fault(peek().place, 4); }
                at++;
                int a = number(0, 7);
                int second = peek().place;
                int b = number(0, 7);
                if (way && a == b) { throw new Fault(second, 1); }
                int c = way ? number(1, 60) : number(0, 999);
                if (way) {
                    Way made = new Way();
                    made.first = a; made.second = b; made.minutes = c;
                    w.ways.add(made);
                } else {
                    Goer made = new Goer();
                    made.place = a; made.aim = b; made.leaves = c;
                    made.home = a == b ? 0 : -1;
                    w.goers.add(made);
                }
                if (peek().kind == 'e') { return w; }
                if (peek().kind != ';') { throw cannot(); }
                at++;
            }
        }

        List<Clause> rule() {
            List<Clause> list = new ArrayList<>();
            while (true) {
                if (!isWord("take") && !isWord("wait")) { throw cannot(); }
                if (list.size() == 12) { throw new Fault(peek().place, 4); }
                Clause c = new Clause();
                c.wait = isWord("wait");
                at++;
                if (c.wait) {
                    c.test = test(0);
                } else {
                    c.sum = sum();
                    if (isWord("if")) { at++; c.test = test(0); }
                }
                list.add(c);
                if (peek().kind == 'e') { return list; }
                if (peek().kind != ';') { throw cannot(); }
                at++;
            }
        }

        Tree test(int deep) {
            Tree t = part(deep);
            while (isWord("or")) { at++; t = new Tree("or", t, part(deep)); }
            return t;
        }

        Tree part(int deep) {
            Tree t = fact(deep);
            while (isWord("and")) { at++; t = new Tree("and", t, fact(deep)); }
            return t;
        }

        Tree fact(int deep) {
            Token t = peek();
            if (isWord("not") || t.kind == '[') {
                if (deep == 10) { throw new Fault(t.place, 2); }
                at++;
                if (t.kind == 'w') { return new Tree("not", fact(deep + 1), null); }
                Tree inner = test(deep + 1);
                if (peek().kind != ']') { throw cannot(); }
                at++;
                return inner;
            }
            Tree a = sum();
            Token sign = peek();
            if ("<l=g>".indexOf(sign.kind) < 0) { throw cannot(); }
            if (++used > 60) { throw new Fault(sign.place, 3); }
            at++;
            return new Tree(String.valueOf(sign.kind), a, sum());
        }

        Tree sum() {
            Tree t = term();
            while (peek().kind == '+' || peek().kind == '-') {
                String k = peek().text;
                at++;
                t = new Tree(k, t, term());
            }
            return t;
        }

        Tree term() {
            Tree t = value();
            while (peek().kind == '*' || peek().kind == '/') {
                String k = peek().text;
                at++;
                t = new Tree(k, t, value());
            }
            return t;
        }

        static final Set<String> WORDS = new HashSet<>(Arrays.asList("way", "minutes", "gone", "last", "to", "far",
            "out", "there", "goer", "aim", "clock", "on"));

        Tree value() {
            Token t = peek();
            Tree made;
            if (t.kind == 'n') {
                if (t.text.length() > 5) { throw new Fault(t.place, 1); }
                made = new Tree("number", null, null);
                made.number = Long.parseLong(t.text);
            } else if (t.kind == 'w' && WORDS.contains(t.text)) {
                made = new Tree(t.text, null, null);
            } else {
                throw cannot();
            }
            if (++used > 60) { throw new Fault(t.place, 3); }
            at++;
            return made;
        }
    }

    // ---- the object ----

    private StringBuilder tape = new StringBuilder();
    private World now = new World();
    private final List<List<Clause>> rules = new ArrayList<>();
    private final Map<Integer, World> images = new TreeMap<>();

    int feed(int a, int b, int c, int d, int e) {
        if (tape.length() + 20 > 400) { return -1; }
        for (int n : new int[] {a, b, c, d, e}) {
            for (int k = 3; k >= 0; k--) { tape.append((char) ((n >>> (8 * k)) & 255)); }
        }
        return tape.length();
    }

    int end(int n) {
        if (n < 0 || n > tape.length()) { return -1; }
        tape.setLength(n);
        return n;
    }

    int land() {
        World told;
        try {
            told = new Reader(tape.toString()).land();
        } catch (Fault f) {
            return -2 - f.code;
        }
        told.x = now.x;
        now = told;
        tape.setLength(0);
        return now.ways.size();
    }

    int rule() {
        if (rules.size() == 6) { return -1; }
        String text = tape.toString();
        tape.setLength(0);
        try {
            rules.add(new Reader(text).rule());
        } catch (Fault f) {
            return -2 - f.code;
        }
        return rules.size() - 1;
    }

    int way(int way, int what) {
        if (way < 0 || way >= now.ways.size() || what < 0 || what > 5) { return -1; }
        Way w = now.ways.get(way);
        return new int[] {w.from(), w.to(), w.minutes, w.gone, w.last, now.on(way)}[what];
    }

    int goer(int goer, int what) {
        if (goer < 0 || goer >= now.goers.size() || what < 0 || what > 6) { return -2; }
        Goer g = now.goers.get(goer);
        return new int[] {g.way >= 0 ? 8 : g.place, g.aim, g.leaves, g.way, g.way >= 0 ? g.spent : 0, g.home,
            g.way >= 0 ? g.heading : -1}[what];
    }

    int place(int p, int what) {
        if (p < 0 || p > 7 || what < 0 || what > 4) { return -100; }
        int reach = 0;
        for (int q = 0; q < 8; q++) { if (now.far(p, q) >= 0) { reach += 1 << q; } }
        return new int[] {now.out(p), now.in(p), now.there(p), now.kept(p), reach}[what];
    }

    int far(int a, int b) {
        if (a < 0 || a > 7 || b < 0 || b > 7) { return -1; }
        return now.far(a, b);
    }

    int go(int goer, int way) {
        if (!now.canGo(goer, way)) { return -1; }
        now.go(goer, way);
        return now.goers.get(goer).place;
    }

    int turn(int d) {
        if (d < 0 || d >= 1 << now.ways.size() || now.anyOn()) { return -1; }
        int before = now.directions();
        now.turn(d);
        return before;
    }

    // a STATE as a list: DIRECTIONS, then each goer's place
    private List<Integer> stateNow() {
        List<Integer> s = new ArrayList<>();
        s.add(now.directions());
        for (Goer g : now.goers) { s.add(g.way >= 0 ? 8 : g.place); }
        return s;
    }

    private List<Integer> next(List<Integer> s, int goer, int way) {
        Way w = now.ways.get(way);
        boolean turned = (s.get(0) >> way) % 2 == 1;
        int from = turned ? w.second : w.first;
        int to = turned ? w.first : w.second;
        if (s.get(1 + goer) != from || now.on(way) > 0) { return null; }
        List<Integer> n = new ArrayList<>(s);
        n.set(0, s.get(0) ^ (1 << way));
        n.set(1 + goer, to);
        return n;
    }

    private Map<List<Integer>, Integer> distances(int goers) {
        Map<List<Integer>, Integer> d = new HashMap<>();
        ArrayDeque<List<Integer>> queue = new ArrayDeque<>();
        d.put(stateNow(), 0);
        queue.add(stateNow());
        while (!queue.isEmpty()) {
            List<Integer> s = queue.poll();
            for (int g = 0; g < now.goers.size(); g++) {
                if ((goers >> g) % 2 == 0) { continue; }
                for (int w = 0; w < now.ways.size(); w++) {
                    List<Integer> n = next(s, g, w);
                    if (n != null && !d.containsKey(n)) { d.put(n, d.get(s) + 1); queue.add(n); }
                }
            }
        }
        return d;
    }

    private boolean okSet(int goers) {
        if (goers < 1 || goers >= 1 << now.goers.size()) { return false; }
        for (int g = 0; g < now.goers.size(); g++) {
            if ((goers >> g) % 2 == 1 && now.goers.get(g).way >= 0) { return false; }
        }
        return now.ways.size() + 3 * Integer.bitCount(goers) <= 20;
    }

    private boolean atAims(List<Integer> s, int goers) {
        for (int g = 0; g < now.goers.size(); g++) {
            if ((goers >> g) % 2 == 1 && s.get(1 + g) != now.goers.get(g).aim) { return false; }
        }
        return true;
    }

    int fewest(int goers) {
        if (!okSet(goers)) { return -1; }
        int best = -2;
        for (Map.Entry<List<Integer>, Integer> e : distances(goers).entrySet()) {
            if (atAims(e.getKey(), goers) && (best < 0 || e.getValue() < best)) { best = e.getValue(); }
        }
        return best;
    }

    int step(int goers, int k) {
        if (!okSet(goers) || k < 0 || k > 999) { return -1; }
        int best = fewest(goers);
        if (k >= best) { return -2; }
        // which states lie on a row of the fewest: backwards from the ends
        Map<List<Integer>, Integer> d = distances(goers);
        Set<List<Integer>> good = new HashSet<>();
        for (int level = best; level >= 0; level--) {
            for (Map.Entry<List<Integer>, Integer> e : d.entrySet()) {
                if (e.getValue() != level) { continue; }
                if (level == best) {
                    if (atAims(e.getKey(), goers)) { good.add(e.getKey()); }
                    continue;
                }
                for (int g = 0; g < now.goers.size(); g++) {
                    for (int w = 0; w < now.ways.size() && (goers >> g) % 2 == 1; w++) {
                        List<Integer> n = next(e.getKey(), g, w);
                        if (n != null && d.get(n) == level + 1 && good.contains(n)) { good.add(e.getKey()); }
                    }
                }
            }
        }
        List<Integer> s = stateNow();
        for (int i = 0;; i++) {
            boolean went = false;
            for (int g = 0; g < now.goers.size() && !went; g++) {
                for (int w = 0; w < now.ways.size() && !went && (goers >> g) % 2 == 1; w++) {
                    List<Integer> n = next(s, g, w);
                    if (n != null && d.get(n) == i + 1 && good.contains(n)) {
                        if (i == k) { return 16 * g + w; }
                        s = n;
                        went = true;
                    }
                }
            }
            if (!went) { throw new IllegalStateException("no row"); }
        }
    }

    int comes(int goers, int directions) {
        if (!okSet(goers) || directions < 0 || directions >= 1 << now.ways.size()) { return -1; }
        List<Integer> s = stateNow();
        s.set(0, directions);
        return distances(goers).containsKey(s) ? 1 : 0;
    }

    int closed(int goers, int what) {
        if (!okSet(goers) || what < 0 || what > 1) { return -1; }
        if (what == 1) {
            World w = now.copy();
            for (int g = 0; g < now.goers.size(); g++) {
                if ((goers >> g) % 2 == 1) { w.goers.get(g).place = w.goers.get(g).aim; }
            }
            for (int d = 0; d < 1 << w.ways.size(); d++) {
                w.turn(d);
                boolean same = true;
                for (int p = 0; p < 8; p++) { same &= w.kept(p) == now.kept(p); }
                if (same) { return 1; }
            }
            return 0;
        }
        int n = 0;
        List<Integer> here = stateNow();
        for (List<Integer> s : distances(goers).keySet()) {
            if (s.subList(1, s.size()).equals(here.subList(1, here.size()))) { n++; }
        }
        return n;
    }

    int alike() {
        World w = now.copy();
        int n = 0;
        for (int d = 0; d < 1 << w.ways.size(); d++) {
            w.turn(d);
            boolean same = true;
            for (int p = 0; p < 8; p++) { same &= w.out(p) == now.out(p); }
            if (same) { n++; }
        }
        return n;
    }

    int decoys(int goer) {
        if (goer < 0 || goer >= now.goers.size() || now.goers.get(goer).way >= 0) { return -1; }
        for (int size = 0; size < 6; size++) {
            for (int set = 0; set < 1 << now.goers.size(); set++) {
                if (Integer.bitCount(set) != size || (set >> goer) % 2 == 1 || !okSet(set | 1 << goer)) { continue; }
                for (List<Integer> s : distances(set | 1 << goer).keySet()) {
                    if (s.get(1 + goer) == now.goers.get(goer).aim) { return set; }
                }
            }
        }
        return -2;
    }

    int post(int goer, int places, boolean back) {
        if (goer < 0 || goer >= now.goers.size() || now.goers.get(goer).way >= 0 || now.ways.size() > 9
            || places < 0 || places > 255) { return -1; }
        int home = now.goers.get(goer).place;
        Set<String> been = new HashSet<>();
        List<Object[]> level = new ArrayList<>();
        level.add(new Object[] {stateNow(), 1 << home});
        for (int far = 0; !level.isEmpty(); far++) {
            List<Object[]> further = new ArrayList<>();
            for (Object[] o : level) {
                @SuppressWarnings("unchecked")
                List<Integer> s = (List<Integer>) o[0];
                int seen = (Integer) o[1];
                if ((seen & places) == places && (!back || s.get(1 + goer) == home)) { return far; }
                for (int w = 0; w < now.ways.size(); w++) {
                    List<Integer> n = next(s, goer, w);
                    if (n == null) { continue; }
                    int nowSeen = seen | 1 << n.get(1 + goer);
                    if (been.add(n + ":" + nowSeen)) { further.add(new Object[] {n, nowSeen}); }
                }
            }
            level = further;
        }
        return -2;
    }

    private boolean okCircle(int goer) {
        return goer >= 0 && goer < now.goers.size() && !now.anyOn();
    }

    private static int paceOf(World w, int goer) {
        int best = -1;
        for (int i = 0; i < w.ways.size(); i++) {
            if (w.ways.get(i).from() == w.goers.get(goer).place
                && (best < 0 || w.ways.get(i).last < w.ways.get(best).last)) { best = i; }
        }
        if (best >= 0) { w.go(goer, best); }
        return best;
    }

    int longest(int goer, int n, int what) {
        if (!okCircle(goer) || n < 0 || n > 2000 || what < 0 || what > 2) { return -1; }
        World w = now.copy();
        int steps = 0;
        while (steps < n && paceOf(w, goer) >= 0) { steps++; }
        return what == 0 ? w.goers.get(goer).place : what == 1 ? w.directions() : steps;
    }

    int covers(int goer) {
        if (!okCircle(goer)) { return -1; }
        World w = now.copy();
        Set<Integer> gone = new HashSet<>();
        for (int steps = 0; steps <= 2000; steps++) {
            if (gone.size() == w.ways.size()) { return steps; }
            int way = paceOf(w, goer);
            if (way < 0) { return -2; }
            gone.add(way);
        }
        return -2;
    }

    int settles(int goer, int what) {
        if (!okCircle(goer) || what < 0 || what > 1) { return -1; }
        World w = now.copy();
        Map<String, Integer> seen = new HashMap<>();
        for (int steps = 0; steps <= 2000; steps++) {
            StringBuilder b = new StringBuilder();
            b.append(w.goers.get(goer).place).append(' ').append(w.directions());
            for (Way a : w.ways) {
                int ahead = 0; // how many of all have a lesser LAST: alike ones get alike ranks
                for (Way c : w.ways) { if (c.last < a.last) { ahead++; } }
                b.append(' ').append(ahead);
            }
            Integer before = seen.put(b.toString(), steps);
            if (before != null) { return what == 0 ? before : steps - before; }
            if (paceOf(w, goer) < 0) { return -2; }
        }
        return -2;
    }

    int row(int goer, int way) {
        if (goer == -1) { now.row.clear(); return 0; }
        if (goer < 0 || goer >= now.goers.size() || way < 0 || way >= now.ways.size() || now.row.size() == 40) { return -2; }
        now.row.add(new int[] {goer, way});
        return now.row.size();
    }

    int done() {
        World w = now.copy();
        int n = 0;
        for (int[] r : now.row) {
            if (!w.canGo(r[0], r[1])) { break; }
            w.go(r[0], r[1]);
            n++;
        }
        return n;
    }

    int free(int k) {
        if (k < 0 || k > now.row.size() - 2) { return -1; }
        World w = now.copy();
        for (int i = 0; i < k; i++) {
            int[] r = now.row.get(i);
            if (!w.canGo(r[0], r[1])) { return 0; }
            w.go(r[0], r[1]);
        }
        String[] ends = new String[2];
        for (int order = 0; order < 2; order++) {
            World v = w.copy();
            for (int i = 0; i < 2; i++) {
                int[] r = now.row.get(k + (i + order) % 2);
                if (!v.canGo(r[0], r[1])) { return 0; }
                v.go(r[0], r[1]);
            }
            ends[order] = v.told();
        }
        return ends[0].equals(ends[1]) ? 1 : 0;
    }

    // ---- minutes ----

    private static long value(World w, Tree t, int goer, int way) {
        Goer g = w.goers.get(goer);
        int p = way >= 0 ? w.ways.get(way).to() : g.place;
        Way a = way >= 0 ? w.ways.get(way) : null;
        switch (t.kind) {
            case "number": return t.number;
            case "way": return a == null ? 0 : way;
            case "minutes": return a == null ? 0 : a.minutes;
            case "gone": return a == null ? 0 : a.gone;
            case "last": return a == null ? 0 : a.last;
            case "on": return a == null ? 0 : w.on(way);
            case "to": return p;
            case "far": return w.far(p, g.aim) < 0 ? 99 : w.far(p, g.aim);
            case "out": return w.out(p);
            case "there": return w.there(p);
            case "goer": return goer;
            case "aim": return g.aim;
            case "clock": return w.clock;
            default:
        }
        long x = value(w, t.a, goer, way);
        long y = value(w, t.b, goer, way);
        switch (t.kind) {
            case "+": return x + y;
            case "-": return x - y;
            case "*": return x * y;
            case "/": return y == 0 ? 0 : x / y;
            default: throw new IllegalStateException(t.kind);
        }
    }

    private static boolean holds(World w, Tree t, int goer, int way) {
        switch (t.kind) {
            case "and": return holds(w, t.a, goer, way) && holds(w, t.b, goer, way);
            case "or": return holds(w, t.a, goer, way) || holds(w, t.b, goer, way);
            case "not": return !holds(w, t.a, goer, way);
            default:
        }
        int c = Long.compare(value(w, t.a, goer, way), value(w, t.b, goer, way));
        switch (t.kind) {
            case "<": return c < 0;
            case "l": return c <= 0;
            case "=": return c == 0;
            case "g": return c >= 0;
            default: return c > 0;
        }
    }

    private static void minute(World w, List<Clause> rule) {
        int behind = Math.min(99999, w.clock + 1);
        for (Goer g : w.goers) {
            if (g.way < 0) { continue; }
            g.spent++;
            Way a = w.ways.get(g.way);
            if (g.spent == a.minutes) {
                g.place = g.heading;
                g.way = -1;
                a.turned = !a.turned;
                a.gone++;
                a.last = ++w.goings;
                if (g.place == g.aim && g.home < 0) { g.home = behind; }
            }
        }
        for (int i = 0; i < w.goers.size(); i++) {
            Goer g = w.goers.get(i);
            if (g.way >= 0 || g.place == g.aim || w.clock < g.leaves) { continue; }
            boolean waits = false;
            for (Clause c : rule) { if (c.wait && holds(w, c.test, i, -1)) { waits = true; } }
            if (waits) { continue; }
            int best = -1;
            long most = 0;
            for (int a = 0; a < w.ways.size(); a++) {
                if (w.ways.get(a).from() != g.place) { continue; }
                for (Clause c : rule) {
                    if (c.wait || c.test != null && !holds(w, c.test, i, a)) { continue; }
                    long take = value(w, c.sum, i, a);
                    if (best < 0 || take > most) { best = a; most = take; }
                    break;
                }
            }
            if (best >= 0) { g.way = best; g.spent = 0; g.heading = w.ways.get(best).to(); }
        }
        for (Goer g : w.goers) {
            for (Goer h : w.goers) {
                if (g.way >= 0 && g.way == h.way && g.heading < h.heading) { w.met++; }
            }
        }
        w.clock = behind;
    }

    private boolean okRule(int rule) { return rule >= 0 && rule < rules.size(); }

    private World passed(World from, int rule, int n) {
        World w = from.copy();
        for (int i = 0; i < n; i++) { minute(w, rules.get(rule)); }
        return w;
    }

    int tick(int rule, int n) {
        if (!okRule(rule) || n < 1 || n > 600 || now.clock + n > 99999) { return -1; }
        now = passed(now, rule, n);
        return now.clock;
    }

    int ahead(int rule, int n, int what) {
        if (!okRule(rule) || n < 0 || n > 600 || what < 0 || what > 3) { return -1; }
        World w = passed(now, rule, n);
        return new int[] {w.atAims(), w.met - now.met, w.goings - now.goings, w.directions()}[what];
    }

    int finest(int n) {
        if (n < 0 || n > 600) { return -1; }
        int best = -2;
        int bestKey = 0;
        for (int r = 0; r < rules.size(); r++) {
            World w = passed(now, r, n);
            int key = w.atAims() * 1000000 - (w.met - now.met);
            if (best < 0 || key > bestKey) { best = r; bestKey = key; }
        }
        return best;
    }

    int home(int rule, int n) {
        if (!okRule(rule) || n < 0 || n > 600) { return -1; }
        for (int i = 0; i <= n; i++) {
            World w = passed(now, rule, i);
            if (w.atAims() == w.goers.size()) { return i; }
        }
        return -2;
    }

    int seed(int x) {
        if (x < 0) { return -1; }
        int before = now.x;
        now.x = x;
        return before;
    }

    int days(int rule, int m, int n, int what) {
        if (!okRule(rule) || m < 1 || m > 20 || n < 0 || n > 300 || what < 0 || what > 2) { return -1; }
        long x = now.x;
        int[] sums = new int[3];
        for (int day = 0; day < m; day++) {
            World w = now.copy();
            for (Goer g : w.goers) {
                x = (x * 1103515245L + 12345L) % 2147483648L;
                g.leaves += (int) (x / 65536 % 60);
            }
            w = passed(w, rule, n);
            sums[0] += w.atAims();
            sums[1] += w.met - now.met;
            sums[2] += w.atAims() == w.goers.size() ? 1 : 0;
        }
        return sums[what];
    }

    int count(int what) {
        if (what < 0 || what > 9) { return -1; }
        return new int[] {now.ways.size(), now.goers.size(), rules.size(), now.directions(), now.goings, now.clock,
            now.met, now.row.size(), now.x, tape.length()}[what];
    }

    int image(int k) {
        if (k < 0 || k > 3) { return -1; }
        images.put(k, now.copy());
        return now.clock;
    }

    int back(int k) {
        if (!images.containsKey(k)) { return -1; }
        now = images.get(k).copy();
        return now.clock;
    }
}
