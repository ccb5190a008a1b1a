import java.util.ArrayList;
import java.util.List;

/**
 * A grammar told as the document tells one, and a reader of any such grammar (Earley's), a token at a time: it knows
 * nothing of LANDS and RULES. A token can stand where it does if some text that fits begins so.
 */
final class Grammar {
    /** Which tokens a sign of the grammar stands for. */
    interface Kinds {
        boolean fits(String sign, String token);
    }

    private record Line(String whole, String[] parts) {
    }

    private record Item(int line, int dot, int from) {
    }

    private final List<Line> lines = new ArrayList<>();
    private final Kinds kinds;
    private final String top;
    private final List<List<Item>> sets = new ArrayList<>();

    /** Each line is NAME -> PARTS | PARTS; what is no line's NAME is a sign that stands for tokens. */
    Grammar(Kinds kinds, List<String> told) {
        this.kinds = kinds;
        this.top = told.get(0).split(" -> ")[0];
        for (String line : told) {
            String[] sides = line.split(" -> ");
            for (String parts : sides[1].split(" \\| ")) {
                lines.add(new Line(sides[0], parts.trim().split(" ")));
            }
        }
        clear();
    }

    void clear() {
        sets.clear();
        List<Item> first = new ArrayList<>();
        predict(first, top, 0);
        close(first, 0);
        sets.add(first);
    }

    /** Reads one token more: whether it can stand there; if not, it is not read. */
    boolean read(String token) {
        List<Item> next = new ArrayList<>();
        for (Item item : sets.get(sets.size() - 1)) {
            String sign = awaited(item);
            if (sign != null && !isName(sign) && kinds.fits(sign, token)) {
                next.add(new Item(item.line, item.dot + 1, item.from));
            }
        }
        if (next.isEmpty()) {
            return false;
        }
        close(next, sets.size());
        sets.add(next);
        return true;
    }

    /** Takes back the token read last. */
    void unread() {
        sets.remove(sets.size() - 1);
    }

    /** Whether what was read fits as it is. */
    boolean isWhole() {
        for (Item item : sets.get(sets.size() - 1)) {
            if (item.from == 0 && awaited(item) == null && lines.get(item.line).whole.equals(top)) {
                return true;
            }
        }
        return false;
    }

    private String awaited(Item item) {
        String[] parts = lines.get(item.line).parts;
        return item.dot < parts.length ? parts[item.dot] : null;
    }

    private boolean isName(String sign) {
        for (Line line : lines) {
            if (line.whole.equals(sign)) {
                return true;
            }
        }
        return false;
    }

    private void predict(List<Item> set, String name, int at) {
        for (int i = 0; i < lines.size(); i++) {
            Item made = new Item(i, 0, at);
            if (lines.get(i).whole.equals(name) && !set.contains(made)) {
                set.add(made);
            }
        }
    }

    private void close(List<Item> set, int at) {
        for (int i = 0; i < set.size(); i++) {
            Item item = set.get(i);
            String sign = awaited(item);
            if (sign == null) {
                complete(set, item, at);
            } else if (isName(sign)) {
                predict(set, sign, at);
            }
        }
    }

    private void complete(List<Item> set, Item whole, int at) {
        // No line is empty, so what is whole here began in an earlier set.
        for (Item item : sets.get(whole.from)) {
            Item made = new Item(item.line, item.dot + 1, item.from);
            if (lines.get(whole.line).whole.equals(awaited(item)) && !set.contains(made)) {
                set.add(made);
            }
        }
    }
}
