import java.lang.management.ManagementFactory;

/** 512 of the dearest calls on one object make little: all calls of a run live in one room. */
public final class RoomTest {
    private static final long MOST_BYTES = 4L << 20;

    private static long allocated() {
        java.lang.management.ThreadMXBean bean = ManagementFactory.getThreadMXBean();
        return ((com.sun.management.ThreadMXBean) bean).getCurrentThreadAllocatedBytes();
    }

    private static String land(int ways, int goers) {
        StringBuilder b = new StringBuilder();
        for (int i = 0; i < ways; i++) {
            int from = i * 5 % 8;
            b.append(i > 0 ? ";" : "").append("way ").append(from).append(' ').append((from + 1 + i % 3) % 8).append(" 1");
        }
        for (int i = 0; i < goers; i++) {
            b.append(";goer ").append(i).append(' ').append(7 - i).append(" 0");
        }
        return b.toString();
    }

    private static int call(TurningRoads roads, int kind, int i) {
        switch (kind) {
            case 0: return roads.fewest(3);
            case 1: return roads.step(3, i);
            case 2: return roads.comes(3, i);
            case 3: return roads.closed(3, i % 2);
            case 4: return roads.decoys(i % 6);
            case 5: return roads.post(0, 255, true);
            case 6: return roads.longest(0, 2000, 0);
            case 7: return roads.covers(0);
            case 8: return roads.settles(0, 1);
            case 9: return roads.done() + roads.free(3) + roads.alike();
            case 10: return roads.tick(0, 100);
            case 11: return roads.ahead(0, 600, 1);
            case 12: return roads.finest(600);
            case 13: return roads.home(0, 600);
            case 14: return roads.days(0, 20, 300, 1);
            default: return roads.image(i % 4) + roads.back(i % 4);
        }
    }

    public static void main(String[] args) {
        allocated();
        for (int kind = 0; kind <= 15; kind++) {
            String land = land(kind == 5 ? 9 : 14, 6);
            for (int round = 0; round < 2; round++) {
                TurningRoads roads = Check.of(land, "take way * gone - far + on if clock / 3 * 3 < clock;take far",
                    "take 0 - last;wait there > 2 and out < 1");
                for (int i = 0; i < 10; i++) {
                    roads.row(i % 6, i);
                }
                long begin = allocated();
                for (int i = 0; i < 480; i++) {
                    call(roads, kind, i);
                }
                long used = allocated() - begin;
                Check.due("room for calls of kind " + kind + ": " + used, used <= MOST_BYTES ? 1 : 0, 1);
            }
        }
        long begin = allocated();
        for (int i = 0; i < 100; i++) {
            new TurningRoads();
        }
        long each = (allocated() - begin) / 100;
        Check.due("room for a new object: " + each, each <= 12000 ? 1 : 0, 1);
        Check.finish();
    }
}
