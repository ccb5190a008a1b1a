import java.util.ArrayList;
import java.util.List;

/** All that can be seen of an object without changing it. */
final class Look {
    private Look() {
    }

    static List<Integer> at(TurningRoads roads) {
        List<Integer> seen = new ArrayList<>();
        for (int what = 0; what <= 9; what++) {
            seen.add(roads.count(what));
        }
        for (int way = 0; way < roads.count(0); way++) {
            for (int what = 0; what <= 5; what++) {
                seen.add(roads.way(way, what));
            }
        }
        for (int goer = 0; goer < roads.count(1); goer++) {
            for (int what = 0; what <= 6; what++) {
                seen.add(roads.goer(goer, what));
            }
        }
        seen.add(roads.done());
        for (int k = 0; k + 1 < roads.count(7); k++) {
            seen.add(roads.free(k));
        }
        return seen;
    }
}
