/** "An object is used for at most 512 calls after it has been made": runs of 512 calls to their end. */
public final class LongRunTest {
    private static final int BAD = GroupOrder.BAD;
    private static final int CALLS = 512;

    private final Checks checks = new Checks();

    public static void main(String[] args) {
        LongRunTest test = new LongRunTest();
        test.checks.about("a run of 512 calls to its end");
        test.sends();
        test.brings();
        test.refusedBrings();
        test.twices();
        test.ups();
        test.agrees();
        test.questions();
        for (int n = 2; n <= 4; n++) {
            test.everythingBrought(n);
            test.everythingTwice(n);
            test.everythingBackwards(n);
        }
        test.checks.end();
    }

    private void due(String call, long want, long got) {
        checks.due(call, want, got);
    }

    private void due(String call, boolean want, boolean got) {
        checks.due(call, want, got);
    }

    private void sends() {
        GroupOrder x = new GroupOrder(4);
        for (int call = 1; call <= CALLS; call++) {
            due("send, call " + call, call <= 40 ? call - 1 : BAD, x.send(call % 4, 3, call % 16, 0, 0));
        }
    }

    private void brings() {
        GroupOrder x = new GroupOrder(2);
        for (int call = 1; call <= 80; call += 2) {
            due("send, call " + call, call / 2, x.send(0, 0, 0, 0, 1_000_000));
            due("bring, call " + (call + 1), 0, x.bring(0));
        }
        for (int call = 81; call < CALLS; call++) {
            due("bring of none, call " + call, BAD, x.bring(0));
        }
        due("value(0), call 512", 40_000_100, x.value(0));
    }

    private void refusedBrings() {
        GroupOrder x = new GroupOrder(2);
        x.send(0, 0, 0, 0, 1);
        x.up(0, false);
        for (int call = 3; call < CALLS; call++) {
            due("bring to a group that is down, call " + call, BAD, x.bring(0));
        }
        due("count(2), call 512", 0, x.count(2));
    }

    private void twices() {
        GroupOrder x = new GroupOrder(2);
        x.send(0, 1, 0, 1, 1);
        for (int call = 2; call < CALLS; call++) {
            due("twice(0), call " + call, 3, x.twice(0));
        }
        due("count(2), call 512", CALLS - 2, x.count(2));
        GroupOrder y = new GroupOrder(2);
        y.send(0, 0, 0, 0, 1);
        for (int call = 2; call < CALLS; call++) {
            due("twice(0), call " + call, 1, y.twice(0));
        }
        due("value(0), call 512", 101, y.value(0));
    }

    private void ups() {
        GroupOrder x = new GroupOrder(3);
        x.send(0, 0, 2, 0, 1);
        for (int call = 2; call < CALLS; call++) {
            due("up, call " + call, true, x.up(2, call % 2 == 1));
        }
        due("bring to a group that is up, call 512", 0, x.bring(0));
    }

    private void agrees() {
        GroupOrder none = new GroupOrder(2);
        for (int call = 1; call <= CALLS; call++) {
            due("agree() with no order, call " + call, true, none.agree());
        }
        GroupOrder x = new GroupOrder(2);
        for (int call = 1; call <= 40; call++) {
            x.send(call % 4, call % 4, call % 16, call % 5, call);
        }
        for (int call = 41; call <= CALLS; call += 2) {
            x.bring(0);
            due("agree(), call " + (call + 1), true, x.agree());
        }
    }

    private void questions() {
        int[] wrong = {Edges.LEAST, -1, 16, 40, 512, Edges.MOST};
        GroupOrder x = new GroupOrder(2);
        for (int call = 1; call <= CALLS; call += 8) {
            int number = wrong[call / 8 % wrong.length];
            due("flight(" + number + ", 0)", BAD, x.flight(number, 0));
            due("taken(0, " + number + ")", BAD, x.taken(0, number));
            due("answer(" + number + ")", GroupOrder.OPEN, x.answer(number));
            due("time(" + number + ", 0, 2)", BAD, x.time(number, 0, 2));
            due("value(" + number + ")", BAD, x.value(number));
            due("clock(" + number + ")", BAD, x.clock(number));
            due("seen(" + number + ")", BAD, x.seen(number));
            due("count(" + number + ")", BAD, x.count(number));
        }
    }

    /** Forty orders of two groups each have the most messages that can be: 240. */
    private static Pair forty(int n, Checks checks, String told) {
        Pair pair = new Pair(n, checks, told + " of " + n + " groups");
        for (int order = 0; order < 40; order++) {
            pair.send(order % 4, 1 + order % 3, order % 15, order % 15 + 1, 25 * (order % 7));
        }
        return pair;
    }

    private void everythingBrought(int n) {
        Pair pair = forty(n, checks, "everything brought");
        for (int k = 0; k < 240; k++) {
            pair.bring(0);
        }
        due("calls left", CALLS - 280, pair.callsLeft());
        end(pair, n, 240);
    }

    private void everythingTwice(int n) {
        Pair pair = forty(n, checks, "everything twice");
        for (int i = 0; i < 240; i++) {
            pair.twice(i);
        }
        due("all are in flight", 240, pair.flying());
        for (int k = 0; k < 150; k++) {
            pair.bring(k % 2 == 0 ? 0 : 239 - k);
        }
        due("calls left", CALLS - 431, pair.callsLeft());
        end(pair, n, 390);
    }

    private void everythingBackwards(int n) {
        Pair pair = forty(n, checks, "the last message first");
        int left = 80;
        for (int k = 0; k < 240; k++) {
            left = pair.bring(left - 1);
        }
        end(pair, n, 240);
    }

    /** All is answered, and every call that is left answers what the model does, the 512th, too. */
    private void end(Pair pair, int n, int brought) {
        due("count(2)", brought, pair.count(2));
        due("count(3)", 40, pair.count(3));
        due("count(4)", 40, pair.count(4));
        due("agree()", true, pair.agree());
        for (int k = 0; pair.callsLeft() > 1; k++) {
            ask(pair, n, k);
        }
        due("agree(), call 512", true, pair.agree());
        due("calls left", 0, pair.callsLeft());
    }

    private static void ask(Pair pair, int n, int k) {
        switch (k % 8) {
            case 0:
                pair.answer(k / 8);
                break;
            case 1:
                pair.value(k / 8 % 16);
                break;
            case 2:
                pair.taken(k / 8 % n, k / 8);
                break;
            case 3:
                pair.time(k / 8, k / 8 % n, 1);
                break;
            case 4:
                pair.clock(k / 8 % n);
                break;
            case 5:
                pair.seen(k / 8 % 4);
                break;
            case 6:
                pair.send(k % 4, k % 4, 0, 1, 0);
                break;
            default:
                pair.flight(k, k % 5);
        }
    }
}
