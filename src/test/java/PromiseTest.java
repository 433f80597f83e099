/** Each promise of the document by itself: ordinary inputs, edges and wrong inputs. */
public final class PromiseTest {
    private static final int BAD = GroupOrder.BAD;
    private static final int OPEN = GroupOrder.OPEN;
    private static final int ADD = 0, MOVE = 1, SUM = 2, SWAP = 3;
    private static final int START = 0, LOCAL = 1, VALUES = 2;
    private static final int LEAST = Integer.MIN_VALUE, MOST = Integer.MAX_VALUE;

    private final Checks checks = new Checks();
    private String promise = "";

    public static void main(String[] args) {
        PromiseTest test = new PromiseTest();
        test.newObject();
        test.numberOfGroups();
        test.sendNumbers();
        test.sendRefuses();
        test.sendStarts();
        test.sendTakesTheClientsTime();
        test.bringCounts();
        test.bringRefuses();
        test.bringKeepsTheOrderOfPutting();
        test.startComes();
        test.localBeforeStart();
        test.nothingIsTakenBeforeSomethingEarlier();
        test.equalTimesTheLesserFirst();
        test.takenWaitForTheFirstOfThem();
        test.twiceStays();
        test.twiceChangesNothingMore();
        test.twiceRefuses();
        test.upAndDown();
        test.flightTells();
        test.flyingCounts();
        test.takenTells();
        test.answersOfAdd();
        test.answersOfMove();
        test.answersOfSum();
        test.answersOfSwap();
        test.answersOfOneKey();
        test.answersBetweenGroups();
        test.answerIsOpen();
        test.answeredTells();
        test.timeTells();
        test.valueTells();
        test.clockTells();
        test.seenTells();
        test.agreeHolds();
        test.countTells();
        test.fullRun();
        test.checks.end();
    }

    private void due(String call, long want, long got) {
        checks.due(promise + ": " + call, want, got);
    }

    private void due(String call, boolean want, boolean got) {
        checks.due(promise + ": " + call, want, got);
    }

    /** Brings message 0 until none is left. */
    private static void bringAll(GroupOrder x) {
        int left = x.flying();
        for (int k = 0; k < 300 && left > 0; k++) {
            left = x.bring(0);
        }
    }

    private void newObject() {
        promise = "promise 1";
        GroupOrder x = new GroupOrder(3);
        due("count(0)", 3, x.count(0));
        for (int what = 1; what <= 4; what++) {
            due("count of a new object", 0, x.count(what));
        }
        due("flying()", 0, x.flying());
        for (int g = 0; g < 3; g++) {
            due("clock", 0, x.clock(g));
            due("taken", BAD, x.taken(g, 0));
        }
        for (int client = 0; client < 4; client++) {
            due("seen", 0, x.seen(client));
        }
        for (int key = 0; key < 16; key++) {
            due("value", 100, x.value(key));
        }
        due("agree()", true, x.agree());
        // Objects know nothing of one another.
        GroupOrder y = new GroupOrder(3);
        y.send(0, ADD, 0, 0, 1);
        y.bring(0);
        due("value of another object", 100, x.value(0));
        due("count(1) of another object", 0, x.count(1));
    }

    private void numberOfGroups() {
        promise = "promise 1";
        int[] asked = {LEAST, -1, 0, 1, 2, 3, 4, 5, MOST};
        int[] made = {2, 2, 2, 2, 2, 3, 4, 4, 4};
        for (int k = 0; k < asked.length; k++) {
            GroupOrder x = new GroupOrder(asked[k]);
            due("count(0) of " + asked[k], made[k], x.count(0));
            due("clock of the last of " + asked[k], 0, x.clock(made[k] - 1));
            due("clock behind the last of " + asked[k], BAD, x.clock(made[k]));
            x.send(0, ADD, 15, 0, 1);
            due("group of key 15 of " + asked[k], 15 % made[k], x.flight(0, 3));
        }
    }

    private void sendNumbers() {
        promise = "promise 2";
        GroupOrder x = new GroupOrder(2);
        due("first order", 0, x.send(0, ADD, 0, 0, 0));
        due("order of the edges", 1, x.send(3, SWAP, 15, 15, 1000000));
        due("refused order", BAD, x.send(0, ADD, 0, 0, -1));
        due("order behind a refused one", 2, x.send(0, ADD, 0, 0, 0));
        for (int o = 3; o < 40; o++) {
            due("order " + o, o, x.send(o % 4, o % 4, o % 16, o % 7, o));
        }
        int flying = x.flying();
        due("the 41st", BAD, x.send(0, ADD, 0, 0, 0));
        due("flying() behind the 41st", flying, x.flying());
        due("count(1) behind the 41st", 40, x.count(1));
        bringAll(x);
        due("the 41st when all are answered", BAD, x.send(0, ADD, 0, 0, 0));
    }

    private void sendRefuses() {
        promise = "promise 2";
        GroupOrder x = new GroupOrder(4);
        for (int client : new int[] {LEAST, -1, 4, MOST}) {
            due("send of client " + client, BAD, x.send(client, ADD, 0, 0, 1));
        }
        for (int kind : new int[] {LEAST, -1, 4, MOST}) {
            due("send of kind " + kind, BAD, x.send(0, kind, 0, 0, 1));
        }
        for (int key : new int[] {LEAST, -1, 16, MOST}) {
            for (int kind = 0; kind < 4; kind++) {
                due("send of a " + key, BAD, x.send(0, kind, key, 0, 1));
                due("send of b " + key, BAD, x.send(0, kind, 0, key, 1));
            }
        }
        for (int c : new int[] {LEAST, -1, 1000001, MOST}) {
            for (int kind = 0; kind < 4; kind++) {
                due("send of c " + c, BAD, x.send(0, kind, 0, 1, c));
            }
        }
        due("flying()", 0, x.flying());
        due("count(1)", 0, x.count(1));
    }

    private void sendStarts() {
        promise = "promise 2";
        GroupOrder x = new GroupOrder(4);
        x.send(0, ADD, 6, 3, 1);
        x.send(0, MOVE, 7, 4, 1);
        x.send(0, SUM, 1, 2, 1);
        x.send(0, SWAP, 5, 9, 1);
        x.send(0, SUM, 3, 3, 1);
        int[][] starts = {{0, 2}, {1, 0}, {1, 3}, {2, 1}, {2, 2}, {3, 1}, {4, 3}};
        due("flying()", starts.length, x.flying());
        for (int i = 0; i < starts.length; i++) {
            due("kind of message " + i, START, x.flight(i, 0));
            due("order of message " + i, starts[i][0], x.flight(i, 1));
            due("goal of message " + i, starts[i][1], x.flight(i, 3));
        }
    }

    private void sendTakesTheClientsTime() {
        promise = "promise 2";
        GroupOrder x = new GroupOrder(2);
        for (int k = 0; k < 3; k++) {
            x.send(0, ADD, 0, 0, 1);
            x.bring(0);
        }
        x.send(1, ADD, 1, 0, 1);
        x.send(0, ADD, 3, 0, 1);
        x.bring(0);
        due("local time of a client without time", 1, x.time(3, 1, 0));
        x.bring(0);
        due("local time of a client of time 3", 4, x.time(4, 1, 0));
        // What the client learns behind the sending does not count.
        GroupOrder y = new GroupOrder(2);
        y.send(0, ADD, 1, 0, 1);
        y.send(0, ADD, 0, 0, 1);
        y.send(0, ADD, 2, 0, 1);
        y.bring(1);
        y.bring(1);
        due("seen(0)", 2, y.seen(0));
        y.bring(0);
        due("local time of an order sent before", 1, y.time(0, 1, 0));
        due("seen(0) does not fall", 2, y.seen(0));
    }

    private void bringCounts() {
        promise = "promise 3";
        GroupOrder x = new GroupOrder(2);
        x.send(0, SWAP, 0, 1, 0);
        due("START to group 0, which puts a LOCAL", 2, x.bring(0));
        due("START to group 1, which puts a LOCAL", 2, x.bring(0));
        due("LOCAL to group 1, which puts a VALUES", 2, x.bring(0));
        due("kind", LOCAL, x.flight(0, 0));
        due("kind", VALUES, x.flight(1, 0));
        due("LOCAL to group 0, which puts a VALUES", 2, x.bring(0));
        due("VALUES to group 0", 1, x.bring(0));
        due("VALUES to group 1", 0, x.bring(0));
        due("flying() at the end", 0, x.flying());
    }

    private void bringRefuses() {
        promise = "promise 3";
        GroupOrder x = new GroupOrder(2);
        due("bring of nothing", BAD, x.bring(0));
        x.send(0, ADD, 0, 0, 1);
        x.send(0, ADD, 1, 0, 1);
        for (int i : new int[] {LEAST, -1, 2, MOST}) {
            due("bring(" + i + ")", BAD, x.bring(i));
        }
        due("flying()", 2, x.flying());
        x.up(1, false);
        due("bring to a group that is down", BAD, x.bring(1));
        due("it stays", 2, x.flying());
        due("it stays where it was", 1, x.flight(1, 1));
        due("clock of a group that is down", 0, x.clock(1));
        due("bring to a group that is up", 1, x.bring(0));
        due("count(2)", 1, x.count(2));
        x.up(1, true);
        due("bring when it is up again", 0, x.bring(0));
        due("answer(1)", 101, x.answer(1));
    }

    private void bringKeepsTheOrderOfPutting() {
        promise = "promise 3";
        GroupOrder x = new GroupOrder(4);
        for (int o = 0; o < 4; o++) {
            x.send(o, MOVE, o, (o + 1) % 4, 1);
        }
        x.bring(3);
        int[] orders = {0, 0, 1, 2, 2, 3, 3, 1};
        for (int i = 0; i < orders.length; i++) {
            due("order of message " + i, orders[i], x.flight(i, 1));
        }
        due("the LOCAL comes last", LOCAL, x.flight(7, 0));
        due("the LOCAL's group", 2, x.flight(7, 2));
        due("the LOCAL's goal", 1, x.flight(7, 3));
    }

    private void startComes() {
        promise = "terms";
        GroupOrder x = new GroupOrder(2);
        x.send(0, MOVE, 0, 1, 10);
        x.bring(0);
        due("local time", 1, x.time(0, 0, 0));
        due("clock", 1, x.clock(0));
        due("final time without the other's local time", BAD, x.time(0, 0, 1));
        due("LOCAL's time", 1, x.flight(1, 4));
        // A greater local time of the other group counts, and pulls the clock up with it.
        for (int k = 0; k < 4; k++) {
            x.send(1, ADD, 3, 0, 1);
            x.bring(2);
        }
        due("clock of group 1", 4, x.clock(1));
        x.bring(0);
        due("local time in group 1", 5, x.time(0, 1, 0));
        due("final time in group 1 without group 0's", BAD, x.time(0, 1, 1));
        due("clock of group 0 before", 1, x.clock(0));
        x.bring(1);
        due("final time in group 0", 5, x.time(0, 0, 1));
        due("clock of group 0", 5, x.clock(0));
        due("local time in group 0 stays", 1, x.time(0, 0, 0));
        bringAll(x);
        due("final time in group 1", 5, x.time(0, 1, 1));
        due("seen(0)", 5, x.seen(0));
    }

    private void localBeforeStart() {
        promise = "terms";
        GroupOrder x = new GroupOrder(2);
        x.send(0, MOVE, 0, 1, 10);
        x.bring(1);
        due("LOCAL before START", 1, x.bring(1));
        due("local time in group 0", BAD, x.time(0, 0, 0));
        due("final time in group 0", BAD, x.time(0, 0, 1));
        due("clock of group 0", 0, x.clock(0));
        due("taken(0, 0)", BAD, x.taken(0, 0));
        x.bring(0);
        due("final time in group 0", 1, x.time(0, 0, 1));
        due("taken(0, 0)", 0, x.taken(0, 0));
        // VALUES may come before START's other messages, too.
        due("kind", LOCAL, x.flight(0, 0));
        due("kind", VALUES, x.flight(1, 0));
        x.bring(1);
        due("not worked out without a final time", 0, x.time(0, 1, 2));
        x.bring(0);
        due("worked out in group 1", 1, x.time(0, 1, 2));
        due("value(1)", 110, x.value(1));
        due("not worked out in group 0", 0, x.time(0, 0, 2));
        due("value(0)", 100, x.value(0));
    }

    private void nothingIsTakenBeforeSomethingEarlier() {
        promise = "terms";
        GroupOrder x = new GroupOrder(2);
        x.send(0, MOVE, 0, 1, 10);
        x.send(1, ADD, 0, 0, 5);
        x.bring(0);
        x.bring(1);
        due("final time of the later order", 2, x.time(1, 0, 1));
        due("it is not taken while an earlier one waits", BAD, x.taken(0, 0));
        due("it is not answered", OPEN, x.answer(1));
        x.bring(0);
        due("kind", LOCAL, x.flight(1, 0));
        x.bring(1);
        due("the earlier one is taken", 0, x.taken(0, 0));
        due("the later one is taken, too", 1, x.taken(0, 1));
        due("but not answered before the first is worked out", OPEN, x.answer(1));
        bringAll(x);
        due("answer of the later one", 95, x.answer(1));
        due("answer of the earlier one", 1, x.answer(0));
    }

    private void equalTimesTheLesserFirst() {
        promise = "terms";
        GroupOrder x = new GroupOrder(4);
        // Order 0 gets time 1 in group 0, but 2 in group 1, where order 1 was first; order 2 gets
        // time 2 in group 0, is final at once, and waits for order 0, whose final time is 2, too.
        x.send(0, SUM, 0, 1, 0);
        x.send(1, ADD, 1, 0, 7);
        x.send(2, ADD, 0, 0, 9);
        x.bring(2);
        x.bring(1);
        x.bring(0);
        due("final time of 0 in group 1", BAD, x.time(0, 1, 1));
        due("final time of 0 in group 0", BAD, x.time(0, 0, 1));
        x.bring(0);
        due("local time of 2", 2, x.time(2, 0, 0));
        due("not taken before the one that may still be earlier", BAD, x.taken(0, 0));
        x.bring(0);
        due("final time of 0", 2, x.time(0, 0, 1));
        due("of equal times the lesser", 0, x.taken(0, 0));
        due("then the greater", 2, x.taken(0, 1));
        bringAll(x);
        due("answer(0)", 207, x.answer(0));
        due("answer(2)", 109, x.answer(2));
        // The greater order comes first where its time is less.
        GroupOrder y = new GroupOrder(2);
        y.send(0, ADD, 0, 0, 1);
        y.send(1, ADD, 0, 0, 2);
        y.bring(1);
        y.bring(0);
        due("the one of less time", 1, y.taken(0, 0));
        due("the one of greater time", 0, y.taken(0, 1));
    }

    private void takenWaitForTheFirstOfThem() {
        promise = "terms";
        GroupOrder x = new GroupOrder(2);
        x.send(0, MOVE, 0, 1, 10);
        x.send(1, MOVE, 2, 3, 20);
        for (int k = 0; k < 4; k++) {
            x.bring(0);
        }
        // START 0 and 1 were in both groups: LOCALs to both, and VALUES where LOCALs came.
        for (int k = 0; k < 4; k++) {
            x.bring(0);
        }
        due("both taken in group 0", 1, x.taken(0, 1));
        int values = 0;
        for (int i = 0; i < x.flying(); i++) {
            due("VALUES of the first order alone", 0, x.flight(i, 1));
            values += x.flight(i, 0) == VALUES ? 1 : 0;
        }
        due("one VALUES of each group", 2, values);
        x.bring(0);
        due("then the next VALUES", 2, x.flying());
        due("of the second order", 1, x.flight(1, 1));
    }

    private void twiceStays() {
        promise = "promise 4";
        GroupOrder x = new GroupOrder(2);
        x.send(0, ADD, 0, 0, 5);
        x.send(0, ADD, 0, 0, 6);
        due("twice(0)", 2, x.twice(0));
        due("the order of message 0", 0, x.flight(0, 1));
        due("answer(0)", 105, x.answer(0));
        due("count(2)", 1, x.count(2));
        due("bring(0)", 1, x.bring(0));
        due("value(0)", 105, x.value(0));
        due("clock(0)", 1, x.clock(0));
        due("count(2)", 2, x.count(2));
        x.send(0, SUM, 2, 3, 0);
        due("twice that puts a LOCAL", 4, x.twice(1));
        due("it stays in its place", START, x.flight(1, 0));
    }

    private void twiceChangesNothingMore() {
        promise = "promise 4";
        GroupOrder x = new GroupOrder(2);
        x.send(0, MOVE, 0, 1, 30);
        due("START", 3, x.twice(0));
        due("START again", 3, x.twice(0));
        due("local time", 1, x.time(0, 0, 0));
        due("clock(0)", 1, x.clock(0));
        due("START to group 1", 4, x.twice(1));
        due("LOCAL to group 1", 5, x.twice(2));
        due("LOCAL to group 1 again", 5, x.twice(2));
        due("LOCAL to group 0", 6, x.twice(3));
        due("LOCAL to group 0 again", 6, x.twice(3));
        due("one taken", BAD, x.taken(0, 1));
        due("VALUES to group 0", 6, x.twice(4));
        due("VALUES to group 0 again", 6, x.twice(4));
        due("value(0)", 70, x.value(0));
        due("VALUES to group 1", 6, x.twice(5));
        due("VALUES to group 1 again", 6, x.twice(5));
        due("value(1)", 130, x.value(1));
        due("count(2)", 11, x.count(2));
        // Old messages change nothing when later orders have changed the values.
        x.send(0, ADD, 0, 0, 1);
        x.bring(6);
        bringAll(x);
        due("value(0)", 71, x.value(0));
        due("value(1)", 130, x.value(1));
        due("answer(0)", 1, x.answer(0));
        due("taken(0, 2)", BAD, x.taken(0, 2));
        due("agree()", true, x.agree());
    }

    private void twiceRefuses() {
        promise = "promise 4";
        GroupOrder x = new GroupOrder(2);
        due("twice of nothing", BAD, x.twice(0));
        x.send(0, ADD, 0, 0, 1);
        for (int i : new int[] {LEAST, -1, 1, MOST}) {
            due("twice(" + i + ")", BAD, x.twice(i));
        }
        x.up(0, false);
        due("twice to a group that is down", BAD, x.twice(0));
        due("count(2)", 0, x.count(2));
        due("flying()", 1, x.flying());
        due("answered(0)", false, x.answered(0));
    }

    private void upAndDown() {
        promise = "promise 5";
        GroupOrder x = new GroupOrder(3);
        for (int group : new int[] {LEAST, -1, 3, 4, MOST}) {
            due("up(" + group + ", true)", false, x.up(group, true));
            due("up(" + group + ", false)", false, x.up(group, false));
        }
        due("up of one that is up", true, x.up(0, true));
        due("down", true, x.up(0, false));
        due("down again", true, x.up(0, false));
        x.send(0, MOVE, 0, 1, 10);
        due("an order to a group that is down starts", 2, x.flying());
        due("the other group is up", 2, x.bring(1));
        due("LOCAL to the group that is down", BAD, x.bring(1));
        due("up again", true, x.up(0, true));
        x.bring(0);
        x.bring(0);
        due("final in group 0", 1, x.time(0, 0, 1));
        // What a group has it keeps.
        x.up(0, false);
        due("clock of a group that is down", 1, x.clock(0));
        due("taken of a group that is down", 0, x.taken(0, 0));
        due("time of a group that is down", 1, x.time(0, 0, 0));
        due("value of a group that is down", 100, x.value(0));
        due("what a group that is down has put comes", 2, x.bring(0));
        due("its VALUES, too", 1, x.bring(0));
        due("answer(0)", 1, x.answer(0));
        x.up(0, true);
        bringAll(x);
        due("value(0)", 90, x.value(0));
        due("value(1)", 110, x.value(1));
    }

    private void flightTells() {
        promise = "promise 6";
        GroupOrder x = new GroupOrder(3);
        due("flight of nothing", BAD, x.flight(0, 0));
        x.send(0, ADD, 0, 0, 1);
        x.send(0, SWAP, 2, 1, 0);
        x.bring(0);
        x.bring(1);
        x.bring(0);
        x.bring(1);
        // Both STARTs came, and group 1's LOCAL: group 2's LOCAL is left, and its VALUES.
        due("flying()", 2, x.flying());
        message(x, 0, new int[] {LOCAL, 1, 2, 1, 1});
        message(x, 1, new int[] {VALUES, 1, 2, 1, BAD});
        x.send(3, ADD, 2, 0, 1);
        message(x, 2, new int[] {START, 2, BAD, 2, BAD});
        for (int i : new int[] {LEAST, -1, 3, MOST}) {
            for (int what = 0; what < 5; what++) {
                due("flight(" + i + ", " + what + ")", BAD, x.flight(i, what));
            }
        }
        for (int what : new int[] {LEAST, -1, 5, MOST}) {
            due("flight(0, " + what + ")", BAD, x.flight(0, what));
        }
    }

    private void message(GroupOrder x, int i, int[] told) {
        for (int what = 0; what < told.length; what++) {
            due("flight(" + i + ", " + what + ")", told[what], x.flight(i, what));
        }
    }

    private void flyingCounts() {
        promise = "promise 7";
        GroupOrder x = new GroupOrder(2);
        due("flying()", 0, x.flying());
        x.send(0, ADD, 0, 1, 1);
        due("flying() behind one group's order", 1, x.flying());
        x.send(0, MOVE, 0, 1, 1);
        due("flying() behind two groups' order", 3, x.flying());
        x.send(0, MOVE, 0, 2, 1);
        due("flying() behind an order of two keys in one group", 4, x.flying());
        x.send(9, MOVE, 0, 2, 1);
        due("flying() behind a refused order", 4, x.flying());
        x.bring(0);
        due("flying() behind bring", 3, x.flying());
        x.twice(0);
        due("flying() behind twice", 4, x.flying());
        x.bring(99);
        due("flying() behind a refused bring", 4, x.flying());
    }

    private void takenTells() {
        promise = "promise 8";
        GroupOrder x = new GroupOrder(2);
        due("taken(0, 0)", BAD, x.taken(0, 0));
        for (int o = 0; o < 3; o++) {
            x.send(0, ADD, 0, 0, 1);
        }
        x.bring(2);
        x.bring(0);
        due("taken(0, 0)", 2, x.taken(0, 0));
        due("taken(0, 1)", 0, x.taken(0, 1));
        due("taken(0, 2)", BAD, x.taken(0, 2));
        due("taken(1, 0)", BAD, x.taken(1, 0));
        for (int wrong : new int[] {LEAST, -1, 2, MOST}) {
            due("taken(0, " + wrong + ")", BAD, x.taken(0, wrong));
            due("taken(" + wrong + ", 0)", BAD, x.taken(wrong, 0));
        }
        due("taken(0, 40)", BAD, x.taken(0, 40));
        // Taken comes before worked out.
        x.send(0, MOVE, 1, 0, 1);
        x.bring(2);
        x.bring(1);
        due("not taken before it is final", BAD, x.taken(1, 0));
        x.bring(2);
        due("taken in group 1", 3, x.taken(1, 0));
        due("not worked out in group 1", 0, x.time(3, 1, 2));
    }

    /** The answer of one order on a new object, where everything is brought. */
    private GroupOrder one(int n, int kind, int a, int b, int c) {
        GroupOrder x = new GroupOrder(n);
        // Values that differ: key k has 100 + k.
        for (int key = 1; key < 16; key++) {
            x.send(0, ADD, key, 0, key);
        }
        bringAll(x);
        x.send(1, kind, a, b, c);
        bringAll(x);
        due("agree()", true, x.agree());
        return x;
    }

    private void answerAndValues(int[] order, int answer, int ofA, int ofB) {
        for (int n = 2; n <= 4; n++) {
            String told = " of kind " + order[0] + ", " + order[1] + ", " + order[2] + ", " + order[3] + " in " + n;
            GroupOrder x = one(n, order[0], order[1], order[2], order[3]);
            due("answer" + told, answer, x.answer(15));
            due("a" + told, ofA, x.value(order[1]));
            due("b" + told, ofB, x.value(order[2]));
            for (int key = 0; key < 16; key++) {
                if (key != order[1] && key != order[2]) {
                    due("key " + key + told, 100 + key, x.value(key));
                }
            }
        }
    }

    private void answersOfAdd() {
        promise = "promise 9";
        answerAndValues(new int[] {ADD, 4, 7, 50}, 154, 154, 107);
        answerAndValues(new int[] {ADD, 4, 4, 50}, 154, 154, 154);
        answerAndValues(new int[] {ADD, 15, 0, 0}, 115, 115, 100);
        answerAndValues(new int[] {ADD, 0, 15, 1000000}, 1000100, 1000100, 115);
    }

    private void answersOfMove() {
        promise = "promise 9";
        answerAndValues(new int[] {MOVE, 4, 7, 50}, 1, 54, 157);
        answerAndValues(new int[] {MOVE, 7, 4, 107}, 1, 0, 211);
        answerAndValues(new int[] {MOVE, 7, 4, 108}, 0, 107, 104);
        answerAndValues(new int[] {MOVE, 2, 14, 102}, 1, 0, 216);
        answerAndValues(new int[] {MOVE, 2, 14, 103}, 0, 102, 114);
        answerAndValues(new int[] {MOVE, 2, 3, 0}, 1, 102, 103);
    }

    private void answersOfSum() {
        promise = "promise 9";
        answerAndValues(new int[] {SUM, 4, 7, 50}, 211, 104, 107);
        answerAndValues(new int[] {SUM, 15, 3, 0}, 218, 115, 103);
    }

    private void answersOfSwap() {
        promise = "promise 9";
        answerAndValues(new int[] {SWAP, 4, 7, 50}, 107, 107, 104);
        answerAndValues(new int[] {SWAP, 13, 1, 0}, 101, 101, 113);
    }

    private void answersOfOneKey() {
        promise = "promise 9";
        answerAndValues(new int[] {MOVE, 5, 5, 105}, 1, 105, 105);
        answerAndValues(new int[] {MOVE, 5, 5, 106}, 0, 105, 105);
        answerAndValues(new int[] {SUM, 5, 5, 1}, 210, 105, 105);
        answerAndValues(new int[] {SWAP, 5, 5, 1}, 105, 105, 105);
    }

    private void answersBetweenGroups() {
        promise = "promise 9";
        // The values that count are those that the other group had when it came to the order.
        GroupOrder x = new GroupOrder(2);
        x.send(0, SUM, 0, 1, 0);
        x.send(1, ADD, 1, 0, 5);
        x.bring(2);
        bringAll(x);
        due("answer behind the other", 205, x.answer(0));
        GroupOrder y = new GroupOrder(2);
        y.send(0, SUM, 0, 1, 0);
        y.send(1, ADD, 1, 0, 5);
        bringAll(y);
        due("answer before the other", 200, y.answer(0));
        due("answer(1)", 105, y.answer(1));
    }

    private void answerIsOpen() {
        promise = "promise 9";
        GroupOrder x = new GroupOrder(2);
        due("answer of none", OPEN, x.answer(0));
        x.send(0, MOVE, 0, 1, 101);
        for (int order : new int[] {LEAST, -1, 1, 39, 40, MOST}) {
            due("answer(" + order + ")", OPEN, x.answer(order));
        }
        // Two STARTs, two LOCALs and the first VALUES come before a group can work it out.
        for (int k = 0; k < 4; k++) {
            due("answer(0) behind " + k + " messages", OPEN, x.answer(0));
            x.bring(0);
        }
        due("answer(0) behind the LOCALs", OPEN, x.answer(0));
        x.bring(0);
        due("answer(0) behind a VALUES", 0, x.answer(0));
        x.bring(0);
        due("answer(0) behind both", 0, x.answer(0));
    }

    private void answeredTells() {
        promise = "promise 10";
        GroupOrder x = new GroupOrder(2);
        due("answered of none", false, x.answered(0));
        x.send(0, ADD, 0, 0, 1);
        x.send(0, MOVE, 0, 1, 1);
        due("answered before it is brought", false, x.answered(0));
        x.bring(0);
        due("answered behind it", true, x.answered(0));
        due("answered of the next", false, x.answered(1));
        for (int order : new int[] {LEAST, -1, 2, 39, 40, MOST}) {
            due("answered(" + order + ")", false, x.answered(order));
        }
        for (int k = 0; k < 4; k++) {
            x.bring(0);
        }
        due("answered, taken by both", false, x.answered(1));
        x.bring(0);
        due("answered when one group has worked it out", true, x.answered(1));
        due("worked out by one", 1, x.count(4));
    }

    private void timeTells() {
        promise = "promise 11";
        GroupOrder x = new GroupOrder(3);
        due("time of none", BAD, x.time(0, 0, 0));
        x.send(0, ADD, 1, 0, 1);
        x.send(1, MOVE, 0, 1, 1);
        for (int what = 0; what < 2; what++) {
            due("time(1, 0, " + what + ") at first", BAD, x.time(1, 0, what));
        }
        due("worked out at first", 0, x.time(1, 0, 2));
        times(x, 0, 0, new int[] {BAD, BAD, 0});
        x.bring(0);
        times(x, 0, 1, new int[] {1, 1, 1});
        x.bring(1);
        times(x, 1, 1, new int[] {2, BAD, 0});
        x.bring(0);
        times(x, 1, 0, new int[] {1, BAD, 0});
        x.bring(0);
        times(x, 1, 0, new int[] {1, 2, 0});
        x.bring(0);
        times(x, 1, 1, new int[] {2, 2, 0});
        x.bring(0);
        times(x, 1, 1, new int[] {2, 2, 1});
        times(x, 1, 0, new int[] {1, 2, 0});
        x.bring(0);
        times(x, 1, 0, new int[] {1, 2, 1});
        // A group that is none of the order's has no times of it, and never works it out.
        times(x, 1, 2, new int[] {BAD, BAD, 0});
        times(x, 0, 0, new int[] {BAD, BAD, 0});
        times(x, 0, 2, new int[] {BAD, BAD, 0});
        for (int wrong : new int[] {LEAST, -1, 3, 40, MOST}) {
            due("time(0, 2, " + wrong + ")", BAD, x.time(0, 2, wrong));
        }
        // An order that was not sent, a group that is not there, another number.
        times(x, 2, 0, new int[] {BAD, BAD, BAD});
        for (int wrong : new int[] {LEAST, -1, 3, 40, MOST}) {
            times(x, wrong, 0, new int[] {BAD, BAD, BAD});
            times(x, 0, wrong, new int[] {BAD, BAD, BAD});
            times(x, 2, wrong, new int[] {BAD, BAD, BAD});
            due("time(0, 1, " + wrong + ")", BAD, x.time(0, 1, wrong));
        }
    }

    private void times(GroupOrder x, int order, int group, int[] told) {
        for (int what = 0; what < told.length; what++) {
            due("time(" + order + ", " + group + ", " + what + ")", told[what], x.time(order, group, what));
        }
    }

    private void valueTells() {
        promise = "promise 12";
        GroupOrder x = new GroupOrder(4);
        for (int key : new int[] {LEAST, -1, 16, MOST}) {
            due("value(" + key + ")", BAD, x.value(key));
        }
        x.send(0, MOVE, 15, 0, 40);
        for (int k = 0; k < 5; k++) {
            due("value(15) before it is worked out", 100, x.value(15));
            due("value(0) before it is worked out", 100, x.value(0));
            x.bring(0);
        }
        due("value(0) when its group has worked it out", 140, x.value(0));
        due("value(15) as its group has it", 100, x.value(15));
        x.bring(0);
        due("value(15) when its group has worked it out", 60, x.value(15));
    }

    private void clockTells() {
        promise = "promise 13";
        GroupOrder x = new GroupOrder(2);
        for (int group : new int[] {LEAST, -1, 2, MOST}) {
            due("clock(" + group + ")", BAD, x.clock(group));
        }
        x.send(0, ADD, 0, 0, 1);
        due("clock before START", 0, x.clock(0));
        x.bring(0);
        due("clock behind START", 1, x.clock(0));
        due("clock of the other", 0, x.clock(1));
        x.send(0, ADD, 2, 0, 1);
        x.bring(0);
        due("clock behind the next", 2, x.clock(0));
        x.send(0, ADD, 1, 0, 1);
        x.bring(0);
        due("one more than the client's time", 3, x.clock(1));
        due("clock(0) stays", 2, x.clock(0));
    }

    private void seenTells() {
        promise = "promise 14";
        GroupOrder x = new GroupOrder(2);
        for (int client : new int[] {LEAST, -1, 4, MOST}) {
            due("seen(" + client + ")", BAD, x.seen(client));
        }
        x.send(3, ADD, 0, 0, 1);
        due("seen before the answer", 0, x.seen(3));
        x.bring(0);
        due("seen behind the answer", 1, x.seen(3));
        due("seen of another", 0, x.seen(0));
        x.send(2, MOVE, 0, 1, 1);
        for (int k = 0; k < 4; k++) {
            x.bring(0);
        }
        due("seen when it is final and taken", 0, x.seen(2));
        x.bring(0);
        due("seen when one group has worked it out", 2, x.seen(2));
    }

    private void agreeHolds() {
        promise = "promise 15";
        GroupOrder x = new GroupOrder(3);
        due("agree() at first", true, x.agree());
        for (int o = 0; o < 12; o++) {
            x.send(o % 4, (o + 1) % 4, o, (5 * o + 1) % 16, 20 * o);
        }
        // From the back, so that the groups get them in other orders; some of them twice.
        for (int k = 0; k < 150 && x.flying() > 0; k++) {
            int i = k % 3 == 0 ? 0 : x.flying() - 1;
            due("a message comes", true, (k % 7 == 0 ? x.twice(i) : x.bring(i)) >= 0);
            due("agree() behind " + k, true, x.agree());
        }
        due("all worked out", 12, x.count(4));
        // One group has worked an order out, and the other has not.
        GroupOrder y = new GroupOrder(2);
        y.send(0, MOVE, 0, 1, 10);
        for (int k = 0; k < 5; k++) {
            y.bring(0);
        }
        due("answered", 1, y.count(3));
        due("worked out by all", 0, y.count(4));
        due("agree() in between", true, y.agree());
        due("agree() changes nothing", 1, y.flying());
    }

    private void countTells() {
        promise = "promise 16";
        GroupOrder x = new GroupOrder(2);
        for (int what : new int[] {LEAST, -1, 5, MOST}) {
            due("count(" + what + ")", BAD, x.count(what));
        }
        x.send(0, ADD, 0, 0, 1);
        x.send(0, MOVE, 0, 1, 1);
        counts(x, 2, 0, 0, 0);
        x.bring(0);
        counts(x, 2, 1, 1, 1);
        x.twice(0);
        counts(x, 2, 2, 1, 1);
        x.bring(0);
        counts(x, 2, 3, 1, 1);
        x.bring(77);
        counts(x, 2, 3, 1, 1);
        x.bring(0);
        x.bring(0);
        x.bring(0);
        counts(x, 2, 6, 1, 1);
        x.bring(0);
        counts(x, 2, 7, 2, 1);
        x.bring(0);
        counts(x, 2, 8, 2, 2);
    }

    private void counts(GroupOrder x, int orders, int brought, int answered, int workedOut) {
        due("count(0)", 2, x.count(0));
        due("count(1)", orders, x.count(1));
        due("count(2)", brought, x.count(2));
        due("count(3)", answered, x.count(3));
        due("count(4)", workedOut, x.count(4));
    }

    /** Forty orders of two groups each, and none of their 240 messages ever leaves the flight. */
    private void fullRun() {
        promise = "a full run";
        GroupOrder x = new GroupOrder(4);
        for (int o = 0; o < 40; o++) {
            x.send(o % 4, SWAP, o % 16, (o + 1) % 16, 0);
        }
        int flying = x.flying();
        due("STARTs in flight", 80, flying);
        for (int i = 0; i < flying; i++) {
            flying = x.twice(i);
        }
        due("all in flight", 240, flying);
        due("count(2)", 240, x.count(2));
        due("count(3)", 40, x.count(3));
        due("count(4)", 40, x.count(4));
        due("agree()", true, x.agree());
        due("bring(239)", 239, x.bring(239));
        for (int left = 238; left >= 40; left--) {
            due("bring of one that was there", left, x.bring(left / 2));
        }
        due("the last of them", VALUES, x.flight(39, 0));
        due("count(3)", 40, x.count(3));
        due("agree()", true, x.agree());
    }
}
