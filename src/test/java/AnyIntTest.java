import java.util.stream.IntStream;

/** Any int in each place of each call, in several states; the answers are due to be the model's. */
public final class AnyIntTest {
    // All small ones, the ends of each range that the document has, and the ends of int.
    private static final int[] ANY = IntStream.concat(IntStream.rangeClosed(-5, 45), IntStream.of(
            Edges.LEAST, Edges.LEAST + 1, -1_000_000, -65536, -256, -41, -40, -17, -16,
            79, 80, 81, 239, 240, 241, 255, 256, 257, 511, 512, 513, 65535, 65536,
            999_999, 1_000_000, 1_000_001, Edges.MOST - 1, Edges.MOST)).toArray();
    private static final int[] SOME = {Edges.LEAST, -1, 0, 1, 2, 3, 4, 5, 40, Edges.MOST};
    private static final String[] STATES = {"new", "sent", "started", "final", "taken", "half worked out",
        "done", "one group down", "40 sent", "40 brought", "240 in flight"};

    private final Checks checks = new Checks();
    private int state;
    private int groups;
    private Pair pair;

    public static void main(String[] args) {
        AnyIntTest test = new AnyIntTest();
        test.newObjects();
        for (int state = 0; state < STATES.length; state++) {
            test.state = state;
            test.groups = 2 + state % 3;
            test.questions();
            test.sends();
            test.messages();
            test.ups();
        }
        test.checks.end();
    }

    private void newObjects() {
        for (int any : ANY) {
            Pair made = new Pair(any, checks, "new GroupOrder(" + any + ")");
            made.lookAround();
            for (int key = 0; key < 16; key++) {
                made.send(key % 4, key % 4, key, 15 - key, key);
            }
            made.bringAll();
            made.lookAround();
        }
    }

    /** Makes the pair anew, in the state that is looked at. */
    private void begin() {
        pair = new Pair(groups, checks, "state " + STATES[state]);
        if (state >= 8) {
            forty(state - 8);
            return;
        }
        // The first order is started in both groups behind two messages, taken behind four, and
        // worked out behind six; the START of the second stays in flight.
        int[] brought = {0, 0, 1, 3, 4, 5, 6, 2};
        if (state > 0) {
            pair.send(0, 1, 0, 1, 30);
            pair.send(1, 0, 2, 0, 5);
        }
        for (int k = 0; k < brought[state]; k++) {
            pair.bring(k < 2 ? 0 : 1);
        }
        if (state == 7) {
            pair.up(1, false);
        }
    }

    private void forty(int how) {
        for (int order = 0; order < 40; order++) {
            pair.send(order % 4, 1 + order % 3, order % 16, (order + 1) % 16, order);
        }
        for (int i = 0; how == 2 && i < 240; i++) {
            pair.twice(i);
        }
        if (how == 1) {
            pair.bringAll();
        }
    }

    /** Room for some more calls on the same object, or on one in the same state. */
    private void room(int calls) {
        if (pair == null || pair.callsLeft() < calls) {
            begin();
        }
    }

    private void questions() {
        begin();
        for (int any : ANY) {
            room(6);
            pair.answer(any);
            pair.answered(any);
            pair.value(any);
            pair.clock(any);
            pair.seen(any);
            pair.count(any);
            for (int some : SOME) {
                room(4);
                pair.flight(any, some);
                pair.flight(some, any);
                pair.taken(any, some);
                pair.taken(some, any);
                times(any, some);
            }
        }
    }

    private void times(int any, int some) {
        for (int other = -1; other <= 3; other++) {
            room(3);
            pair.time(any, some, other);
            pair.time(some, any, other);
            pair.time(other, some, any);
        }
    }

    private void sends() {
        for (int any : ANY) {
            for (int kind = 0; kind < 4; kind++) {
                sent(any, kind, 0, 1, 1);
                sent(3, kind, any, 15, 1);
                sent(3, kind, 15, any, 1);
                sent(3, kind, any, any, 1);
                sent(0, kind, 1, 2, any);
            }
            sent(0, any, 0, 1, 1);
            sent(any, any, any, any, any);
        }
    }

    private void sent(int client, int kind, int a, int b, int c) {
        begin();
        int before = pair.count(1);
        int order = pair.send(client, kind, a, b, c);
        pair.lookAround();
        pair.time(before, 0, 2);
        if (order == GroupOrder.BAD) {
            pair.send(0, 0, 0, 0, 0);
        } else {
            pair.bring(pair.flying() - 1);
        }
        pair.lookAround();
    }

    private void messages() {
        for (int any : ANY) {
            begin();
            pair.bring(any);
            pair.lookAround();
            begin();
            pair.twice(any);
            pair.lookAround();
            pair.bring(any);
            pair.lookAround();
        }
    }

    private void ups() {
        for (int any : ANY) {
            for (int on = 0; on < 2; on++) {
                begin();
                pair.up(any, on == 1);
                pair.bring(0);
                pair.twice(1);
                pair.lookAround();
                pair.up(any, on == 0);
                pair.bring(0);
                pair.lookAround();
            }
        }
    }
}
