import java.util.ArrayDeque;
import java.util.Arrays;
import java.util.Deque;
import java.util.HashSet;
import java.util.Set;

/**
 * A few orders, and every way in which they can be sent and their messages brought: each state that
 * can be reached is told by all calls, and is due to be the model's.
 */
public final class EveryWayTest {
    private static final int ADD = 0, MOVE = 1, SUM = 2, SWAP = 3;
    // Each order: client, kind, a, b, c. They meet in the same groups and in the same keys. More than
    // two orders of two groups would make a hundred thousand states.
    private static final int[][][] BROUGHT_ONCE = {
        {{0, MOVE, 0, 1, 60}, {1, SWAP, 1, 0, 0}},
        {{0, MOVE, 0, 1, 60}, {0, MOVE, 0, 1, 60}},
        {{0, MOVE, 0, 1, 60}, {1, ADD, 0, 0, 5}, {1, ADD, 1, 1, 7}},
        {{0, SUM, 0, 1, 0}, {0, ADD, 0, 0, 5}, {0, MOVE, 0, 2, 103}},
        {{0, SWAP, 1, 0, 0}, {0, ADD, 1, 1, 9}, {1, ADD, 0, 0, 4}},
        {{0, MOVE, 0, 1, 90}, {1, MOVE, 1, 2, 150}},
        {{0, ADD, 2, 2, 1}, {0, SWAP, 2, 1, 0}, {1, SUM, 2, 2, 0}},
        {{0, MOVE, 0, 1, 60}, {1, MOVE, 1, 2, 110}, {2, ADD, 1, 1, 30}}};
    private static final int[][][] BROUGHT_TWICE = {
        {{0, MOVE, 0, 1, 60}, {0, ADD, 0, 0, 5}},
        {{0, SWAP, 1, 0, 0}, {1, ADD, 1, 1, 5}}};

    private final Checks checks;
    private final int n;
    private final int[][] orders;
    private final boolean twices;
    private final Deque<int[]> ways = new ArrayDeque<>();
    private final Set<String> known = new HashSet<>();

    private EveryWayTest(Checks checks, int n, int[][] orders, boolean twices) {
        this.checks = checks;
        this.n = n;
        this.orders = orders;
        this.twices = twices;
    }

    public static void main(String[] args) {
        Checks checks = new Checks();
        for (int n = 2; n <= 3; n++) {
            for (int[][] orders : BROUGHT_ONCE) {
                new EveryWayTest(checks, n, orders, false).go();
            }
            for (int[][] orders : BROUGHT_TWICE) {
                new EveryWayTest(checks, n, orders, true).go();
            }
        }
        checks.end();
    }

    private void go() {
        reach(new int[0]);
        // It ends: orders and messages are few, and a way to a state that is known goes no further.
        while (!ways.isEmpty() && checks.wrong() == 0) {
            int[] way = ways.remove();
            Pair pair = walk(way);
            reach(longer(way, -1));
            int flying = pair.flying();
            for (int i = 0; i < flying; i++) {
                reach(longer(way, 2 * i));
                if (twices) {
                    reach(longer(way, 2 * i + 1));
                }
            }
        }
    }

    /** A step is -1 for the next order, 2 i for bring(i), 2 i + 1 for twice(i). */
    private static int[] longer(int[] way, int step) {
        int[] next = Arrays.copyOf(way, way.length + 1);
        next[way.length] = step;
        return next;
    }

    private Pair walk(int[] way) {
        Pair pair = new Pair(n, checks, n + " groups, way " + Arrays.toString(way));
        int sent = 0;
        for (int step : way) {
            if (step >= 0) {
                step(pair, step);
            } else if (sent < orders.length) {
                int[] order = orders[sent++];
                pair.send(order[0], order[1], order[2], order[3], order[4]);
            }
        }
        return pair;
    }

    private static void step(Pair pair, int step) {
        if (step % 2 == 0) {
            pair.bring(step / 2);
        } else {
            pair.twice(step / 2);
        }
    }

    private void reach(int[] way) {
        Pair pair = walk(way);
        if (known.add(pair.tell())) {
            pair.lookAround();
            pair.lookCloser();
            ways.add(way);
        }
    }
}
