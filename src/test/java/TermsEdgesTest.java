/** Each sentence of the document's terms that names a boundary case has a test of its own here. */
public final class TermsEdgesTest {
    private static final int BAD = GroupOrder.BAD, OPEN = GroupOrder.OPEN;
    private static final int ADD = 0, MOVE = 1, SUM = 2, SWAP = 3;
    private static final int LOCAL = 1, VALUES = 2;
    // Keys of two groups and of one, however many groups there are.
    private static final int[][] APART = {{0, 1}, {1, 0}, {15, 2}, {6, 13}};
    private static final int[][] TOGETHER = {{0, 12}, {12, 0}, {15, 3}, {1, 13}};

    private final Checks checks = new Checks();

    public static void main(String[] args) {
        TermsEdgesTest test = new TermsEdgesTest();
        test.groupsOfAnOrder();
        test.enoughToMove();
        test.tooLittleToMove();
        test.moveToItself();
        test.sumOfOneKey();
        test.swapOfOneKey();
        test.greatestNumbers();
        test.startWasThere();
        test.startWasThereWhenMoreHasCome();
        test.localWasThere();
        test.localWasThereBeforeStart();
        test.valuesWereThere();
        test.valuesWereThereBeforeTheyCount();
        test.ofEqualTimesTheLesserIsTaken();
        test.ofEqualTimesTheLesserIsWaitedFor();
        test.ofEqualFinalTimesTheLesserIsTaken();
        test.clockOrClientsTime();
        test.clockDoesNotFall();
        test.clientsTimeDoesNotFall();
        test.upAtFirst();
        test.downKeepsWhatItHas();
        test.downKeepsWhatCameEarly();
        test.checks.end();
    }

    private void due(String call, long want, long got) {
        checks.due(call, want, got);
    }

    private void due(String call, boolean want, boolean got) {
        checks.due(call, want, got);
    }

    private static void bringAll(GroupOrder x) {
        int left = x.flying();
        for (int k = 0; k < 300 && left > 0; k++) {
            left = x.bring(0);
        }
    }

    // The groups of an order

    private void groupsOfAnOrder() {
        checks.about("terms, \"the same or not; of kind 0 that of a alone\"");
        for (int n = 2; n <= 4; n++) {
            for (int kind = 0; kind < 4; kind++) {
                for (int keys = 0; keys < 256; keys++) {
                    groupsOf(n, kind, keys / 16, keys % 16);
                }
            }
        }
    }

    private void groupsOf(int n, int kind, int a, int b) {
        String of = " of kind " + kind + ", " + a + ", " + b + " in " + n;
        GroupOrder x = new GroupOrder(n);
        x.send(0, kind, a, b, 1);
        if (kind == ADD || a % n == b % n) {
            due("flying()" + of, 1, x.flying());
            due("flight(0, 3)" + of, a % n, x.flight(0, 3));
            due("bring(0)" + of, 0, x.bring(0));
            due("answered(0)" + of, true, x.answered(0));
        } else {
            due("flying()" + of, 2, x.flying());
            due("flight(0, 3)" + of, Math.min(a % n, b % n), x.flight(0, 3));
            due("flight(1, 3)" + of, Math.max(a % n, b % n), x.flight(1, 3));
            due("bring(0)" + of, 2, x.bring(0));
            due("answered(0)" + of, false, x.answered(0));
        }
        bringAll(x);
        due("count(4)" + of, 1, x.count(4));
        due("taken by a's group" + of, 0, x.taken(a % n, 0));
        due("taken by b's group" + of, kind == ADD && a % n != b % n ? BAD : 0, x.taken(b % n, 0));
    }

    // The kinds of orders

    /** One order on a new object, with a at 100 + more before it, and everything brought. */
    private static GroupOrder behind(int n, int more, int kind, int a, int b, int c) {
        GroupOrder x = new GroupOrder(n);
        x.send(0, ADD, a, a, more);
        bringAll(x);
        x.send(1, kind, a, b, c);
        bringAll(x);
        return x;
    }

    private void moved(int[][] keys, int more, int c, boolean enough) {
        for (int n = 2; n <= 4; n++) {
            for (int[] key : keys) {
                String of = " behind " + c + " from " + key[0] + " to " + key[1] + " in " + n;
                GroupOrder x = behind(n, more, MOVE, key[0], key[1], c);
                due("answered(1)" + of, true, x.answered(1));
                due("answer(1)" + of, enough ? 1 : 0, x.answer(1));
                due("value of a" + of, 100 + more - (enough ? c : 0), x.value(key[0]));
                due("value of b" + of, 100 + (enough ? c : 0), x.value(key[1]));
                due("agree()" + of, true, x.agree());
            }
        }
    }

    private void enoughToMove() {
        checks.about("terms, \"if a has at least c: it answers 1\"");
        for (int[][] keys : new int[][][] {APART, TOGETHER}) {
            moved(keys, 0, 0, true);
            moved(keys, 0, 99, true);
            moved(keys, 0, 100, true);
            moved(keys, 7, 107, true);
            moved(keys, 999_900, 1_000_000, true);
            moved(keys, 1_000_000, 1_000_000, true);
        }
    }

    private void tooLittleToMove() {
        checks.about("terms, \"else 0, and nothing is done\"");
        for (int[][] keys : new int[][][] {APART, TOGETHER}) {
            moved(keys, 0, 101, false);
            moved(keys, 7, 108, false);
            moved(keys, 0, 1_000_000, false);
            moved(keys, 999_899, 1_000_000, false);
        }
        // With nothing left, nothing can still go.
        GroupOrder x = behind(2, 0, MOVE, 0, 1, 100);
        x.send(0, MOVE, 0, 1, 1);
        bringAll(x);
        due("answer of 1 from 0", 0, x.answer(2));
        x.send(0, MOVE, 0, 1, 0);
        bringAll(x);
        due("answer of 0 from 0", 1, x.answer(3));
        due("value(0)", 0, x.value(0));
        due("value(1)", 200, x.value(1));
    }

    private void moveToItself() {
        checks.about("terms, \"(from a key to itself nothing is changed)\"");
        for (int n = 2; n <= 4; n++) {
            for (int key = 0; key < 16; key++) {
                String of = " behind a move from " + key + " to itself in " + n;
                for (int c : new int[] {0, 1, 104, 105, 106, 1_000_000}) {
                    GroupOrder x = behind(n, 5, MOVE, key, key, c);
                    due("answer of " + c + of, c <= 105 ? 1 : 0, x.answer(1));
                    due("value" + of, 105, x.value(key));
                    due("agree()" + of, true, x.agree());
                }
            }
        }
    }

    private void sumOfOneKey() {
        checks.about("terms, \"of one key twice its value\"");
        for (int n = 2; n <= 4; n++) {
            for (int key = 0; key < 16; key++) {
                for (int more : new int[] {0, 1, 1_000_000}) {
                    GroupOrder x = behind(n, more, SUM, key, key, 3);
                    due("answer of key " + key + " in " + n, 2 * (100 + more), x.answer(1));
                    due("value(" + key + ")", 100 + more, x.value(key));
                }
            }
        }
        GroupOrder empty = behind(2, 0, MOVE, 0, 1, 100);
        empty.send(0, SUM, 0, 0, 0);
        bringAll(empty);
        due("answer of a key with nothing", 0, empty.answer(2));
    }

    private void swapOfOneKey() {
        checks.about("terms, \"3 both get each other's value\", of one key");
        for (int n = 2; n <= 4; n++) {
            GroupOrder x = behind(n, 5, SWAP, 7, 7, 3);
            due("answer", 105, x.answer(1));
            due("value(7)", 105, x.value(7));
        }
    }

    /** No run of calls comes near the end of 32 bits: InsideTest does. */
    private void greatestNumbers() {
        checks.about("terms, \"(All in 32 bits.)\", the greatest that calls can reach");
        GroupOrder x = new GroupOrder(2);
        for (int order = 0; order < 37; order++) {
            x.send(0, ADD, 0, 0, 1_000_000);
            x.bring(0);
            due("answer(" + order + ")", 1_000_000 * (order + 1) + 100, x.answer(order));
        }
        x.send(1, SUM, 0, 0, 0);
        x.send(2, SWAP, 1, 0, 0);
        x.send(3, MOVE, 1, 0, 1_000_000);
        bringAll(x);
        due("answer of twice the value", 74_000_200, x.answer(37));
        due("answer of the swap", 37_000_100, x.answer(38));
        due("answer of the move", 1, x.answer(39));
        due("value(0)", 1_000_100, x.value(0));
        due("value(1)", 36_000_100, x.value(1));
        due("agree()", true, x.agree());
    }

    // Messages that come again

    private void startWasThere() {
        checks.about("terms, \"START comes to a group: if it was there before, nothing\"");
        GroupOrder x = new GroupOrder(2);
        x.send(0, ADD, 0, 0, 5);
        for (int k = 0; k < 5; k++) {
            due("twice(0)", 1, x.twice(0));
            due("clock(0)", 1, x.clock(0));
            due("time(0, 0, 0)", 1, x.time(0, 0, 0));
            due("value(0)", 105, x.value(0));
            due("taken(0, 1)", BAD, x.taken(0, 1));
        }
        due("bring(0)", 0, x.bring(0));
        due("clock(0)", 1, x.clock(0));
        due("answer(0)", 105, x.answer(0));
        due("count(2)", 6, x.count(2));
        due("count(4)", 1, x.count(4));
    }

    private void startWasThereWhenMoreHasCome() {
        checks.about("terms, \"START comes to a group: if it was there before, nothing\"");
        GroupOrder x = new GroupOrder(2);
        x.send(0, MOVE, 0, 1, 30);
        due("START to group 0 puts one LOCAL", 3, x.twice(0));
        due("again it puts none", 3, x.twice(0));
        // The clock goes on: the local time does not.
        x.send(1, ADD, 2, 0, 1);
        due("another order's START", 3, x.bring(3));
        due("clock(0)", 2, x.clock(0));
        due("again, when the clock has gone on", 3, x.twice(0));
        due("clock(0)", 2, x.clock(0));
        due("time(0, 0, 0)", 1, x.time(0, 0, 0));
        due("flight(2, 4)", 1, x.flight(2, 4));
        // The messages: START to 0, START to 1, LOCAL to 1, and what comes of them behind these.
        due("START to group 1", 4, x.twice(1));
        due("LOCAL to group 1", 5, x.twice(2));
        due("START to group 1, when it is final and taken", 5, x.twice(1));
        due("LOCAL to group 0", 6, x.twice(3));
        due("START to group 0, when it is final and taken", 6, x.twice(0));
        due("VALUES to group 0", 6, x.twice(4));
        due("START to group 0, when it is worked out", 6, x.twice(0));
        due("value(0)", 70, x.value(0));
        due("clock(0)", 2, x.clock(0));
        due("clock(1)", 1, x.clock(1));
        due("taken(0, 2)", BAD, x.taken(0, 2));
    }

    private void localWasThere() {
        checks.about("terms, \"(If it had them, nothing.)\", of LOCAL");
        GroupOrder x = new GroupOrder(2);
        x.send(0, MOVE, 0, 1, 30);
        x.bring(0);
        x.bring(0);
        due("LOCAL to group 1 puts one VALUES", 3, x.twice(0));
        for (int k = 0; k < 3; k++) {
            due("again it puts none", 3, x.twice(0));
            due("clock(1)", 1, x.clock(1));
            due("time(0, 1, 1)", 1, x.time(0, 1, 1));
            due("taken(1, 1)", BAD, x.taken(1, 1));
        }
        bringAll(x);
        due("value(0)", 70, x.value(0));
        due("value(1)", 130, x.value(1));
        due("count(2)", 10, x.count(2));
    }

    private void localWasThereBeforeStart() {
        checks.about("terms, \"(If it had them, nothing.)\", of LOCAL before START");
        GroupOrder x = new GroupOrder(2);
        x.send(0, MOVE, 0, 1, 30);
        x.bring(0);
        for (int k = 0; k < 3; k++) {
            due("LOCAL to group 1", 2, x.twice(1));
            due("clock(1)", 0, x.clock(1));
            due("time(0, 1, 0)", BAD, x.time(0, 1, 0));
            due("time(0, 1, 1)", BAD, x.time(0, 1, 1));
        }
        due("START to group 1 puts a LOCAL and a VALUES", 3, x.bring(0));
        due("time(0, 1, 1)", 1, x.time(0, 1, 1));
        due("LOCAL to group 1 again", 2, x.bring(0));
        due("a LOCAL is put before a VALUES", LOCAL, x.flight(0, 0));
        due("and the VALUES behind it", VALUES, x.flight(1, 0));
    }

    private void valuesWereThere() {
        checks.about("terms, \"(If it had them, nothing.)\", of VALUES");
        GroupOrder x = new GroupOrder(2);
        x.send(0, MOVE, 0, 1, 30);
        for (int k = 0; k < 4; k++) {
            x.bring(0);
        }
        due("VALUES to group 0", 2, x.twice(0));
        due("VALUES to group 1", 2, x.twice(1));
        // What comes again when other orders have changed the values changes nothing.
        x.send(1, ADD, 0, 0, 7);
        x.bring(2);
        for (int k = 0; k < 3; k++) {
            due("VALUES to group 0 again", 2, x.twice(0));
            due("VALUES to group 1 again", 2, x.twice(1));
            due("value(0)", 77, x.value(0));
            due("value(1)", 130, x.value(1));
            due("answer(0)", 1, x.answer(0));
            due("count(4)", 2, x.count(4));
        }
        due("seen(0)", 1, x.seen(0));
        due("seen(1)", 2, x.seen(1));
        due("agree()", true, x.agree());
    }

    private void valuesWereThereBeforeTheyCount() {
        checks.about("terms, \"(If it had them, nothing.)\", of VALUES before the order is taken");
        GroupOrder x = new GroupOrder(2);
        x.send(0, SUM, 0, 1, 0);
        x.bring(0);
        x.bring(0);
        // Group 1 takes the order, while its LOCAL to group 0 waits.
        x.bring(0);
        due("the last one in flight", VALUES, x.flight(1, 0));
        for (int k = 0; k < 3; k++) {
            due("VALUES to group 0", 2, x.twice(1));
            due("time(0, 0, 1)", BAD, x.time(0, 0, 1));
            due("answer(0)", OPEN, x.answer(0));
        }
        due("LOCAL to group 0 is all that was missing", 2, x.bring(0));
        due("answer(0)", 200, x.answer(0));
        due("time(0, 0, 2)", 1, x.time(0, 0, 2));
    }

    // Equal times

    private void ofEqualTimesTheLesserIsTaken() {
        checks.about("terms, \"of equal ones the lesser order\", where that is final");
        GroupOrder x = new GroupOrder(2);
        x.send(0, SUM, 0, 1, 0);
        x.send(1, SUM, 2, 3, 0);
        x.send(2, ADD, 1, 0, 1);
        // Group 1's clock goes on; order 0 has times 1 and 2, order 1 has 2 in group 0.
        x.bring(4);
        x.bring(0);
        x.bring(0);
        x.bring(0);
        due("nothing is taken yet", BAD, x.taken(0, 0));
        x.bring(2);
        due("time(0, 0, 1)", 2, x.time(0, 0, 1));
        due("time(1, 0, 0)", 2, x.time(1, 0, 0));
        due("time(1, 0, 1)", BAD, x.time(1, 0, 1));
        due("the lesser is taken", 0, x.taken(0, 0));
        due("the greater is not", BAD, x.taken(0, 1));
    }

    private void ofEqualTimesTheLesserIsWaitedFor() {
        checks.about("terms, \"of equal ones the lesser order\", where that is not final");
        GroupOrder x = new GroupOrder(2);
        x.send(0, SUM, 2, 3, 0);
        x.send(1, SUM, 0, 1, 0);
        x.send(2, ADD, 1, 0, 1);
        x.bring(4);
        x.bring(2);
        x.bring(2);
        x.bring(0);
        x.bring(2);
        due("time(1, 0, 1)", 2, x.time(1, 0, 1));
        due("time(0, 0, 0)", 2, x.time(0, 0, 0));
        due("time(0, 0, 1)", BAD, x.time(0, 0, 1));
        due("nothing is taken", BAD, x.taken(0, 0));
        bringAll(x);
        due("time(0, 0, 1)", 3, x.time(0, 0, 1));
        due("the greater is taken, when it is the earlier one", 1, x.taken(0, 0));
        due("then the lesser", 0, x.taken(0, 1));
    }

    private void ofEqualFinalTimesTheLesserIsTaken() {
        checks.about("terms, \"of equal ones the lesser order\", where both are final");
        GroupOrder x = new GroupOrder(2);
        x.send(0, MOVE, 0, 1, 60);
        x.send(1, MOVE, 0, 1, 60);
        x.bring(1);
        x.bring(1);
        x.bring(0);
        x.bring(0);
        due("LOCAL of order 1 to group 0", 1, x.flight(3, 1));
        x.bring(3);
        due("the greater is final", 2, x.time(1, 0, 1));
        due("but is not taken", BAD, x.taken(0, 0));
        x.bring(0);
        due("the lesser is final", 2, x.time(0, 0, 1));
        due("and is taken", 0, x.taken(0, 0));
        due("and the greater behind it", 1, x.taken(0, 1));
        bringAll(x);
        due("taken(1, 0)", 0, x.taken(1, 0));
        due("taken(1, 1)", 1, x.taken(1, 1));
        due("answer(0)", 1, x.answer(0));
        due("answer(1)", 0, x.answer(1));
    }

    // Clocks and times

    private void clockOrClientsTime() {
        checks.about("terms, \"one more than the greater one of itself and the time that the client had\"");
        GroupOrder x = new GroupOrder(2);
        x.send(0, ADD, 0, 0, 1);
        x.bring(0);
        due("both are 0", 1, x.clock(0));
        x.send(1, ADD, 0, 0, 1);
        x.bring(0);
        due("the clock is the greater one", 2, x.clock(0));
        x.send(1, ADD, 0, 0, 1);
        x.bring(0);
        due("both are 2", 3, x.clock(0));
        x.send(1, ADD, 1, 0, 1);
        // What the client learns behind the sending does not count.
        x.send(1, ADD, 0, 0, 1);
        x.bring(1);
        due("seen(1)", 4, x.seen(1));
        x.bring(0);
        due("the client's time when it was sent is the greater one", 4, x.clock(1));
    }

    private void clockDoesNotFall() {
        checks.about("terms, \"the clock becomes that, if it is less\"");
        GroupOrder x = new GroupOrder(2);
        x.send(0, SUM, 0, 1, 0);
        x.bring(0);
        for (int k = 0; k < 3; k++) {
            x.send(1, ADD, 0, 0, 1);
            x.bring(2);
        }
        due("clock(0)", 4, x.clock(0));
        x.bring(0);
        due("LOCAL of group 1", 1, x.flight(1, 2));
        x.bring(1);
        due("time(0, 0, 1)", 1, x.time(0, 0, 1));
        due("clock(0) does not fall", 4, x.clock(0));
        // The other way round it goes up to the final time.
        x.send(2, SUM, 2, 3, 0);
        bringAll(x);
        due("time(4, 0, 1)", 5, x.time(4, 0, 1));
        due("time(4, 1, 0)", 2, x.time(4, 1, 0));
        due("clock(1)", 5, x.clock(1));
    }

    private void clientsTimeDoesNotFall() {
        checks.about("terms, \"the client's time becomes the order's final one, if it is less\"");
        GroupOrder x = new GroupOrder(2);
        x.send(0, ADD, 1, 0, 1);
        for (int k = 0; k < 3; k++) {
            x.send(0, ADD, 0, 0, 1);
            x.bring(1);
        }
        due("seen(0)", 3, x.seen(0));
        x.bring(0);
        due("time(0, 1, 1)", 1, x.time(0, 1, 1));
        due("seen(0) does not fall", 3, x.seen(0));
    }

    // Groups that are up or down

    private void upAtFirst() {
        checks.about("terms, \"up at first\"");
        for (int n = 2; n <= 4; n++) {
            GroupOrder x = new GroupOrder(n);
            for (int group = 0; group < n; group++) {
                x.send(0, ADD, group, 0, 1);
                due("bring to group " + group + " of " + n, 0, x.bring(0));
            }
        }
    }

    private void downKeepsWhatItHas() {
        checks.about("terms, \"what they have they keep\"");
        GroupOrder x = new GroupOrder(2);
        x.send(0, ADD, 0, 0, 5);
        x.send(1, MOVE, 0, 1, 30);
        x.bring(0);
        x.bring(0);
        for (int k = 0; k < 3; k++) {
            x.up(0, k == 1);
            due("clock(0)", 2, x.clock(0));
            due("value(0)", 105, x.value(0));
            due("taken(0, 0)", 0, x.taken(0, 0));
            due("time(0, 0, 1)", 1, x.time(0, 0, 1));
            due("time(0, 0, 2)", 1, x.time(0, 0, 2));
            due("time(1, 0, 0)", 2, x.time(1, 0, 0));
            due("flying()", 2, x.flying());
        }
        // What it put before it was down comes to the other group.
        due("START to group 1", 2, x.bring(0));
        due("LOCAL to group 1", 2, x.bring(0));
        due("an order sent to it", 2, x.send(2, ADD, 0, 0, 1));
        due("its START stays", BAD, x.bring(2));
        x.up(0, true);
        bringAll(x);
        due("value(0)", 76, x.value(0));
        due("value(1)", 130, x.value(1));
        due("answer(2)", 76, x.answer(2));
        due("agree()", true, x.agree());
    }

    private void downKeepsWhatCameEarly() {
        checks.about("terms, \"what they have they keep\", of messages that came early");
        GroupOrder x = new GroupOrder(2);
        x.send(0, SUM, 0, 1, 0);
        x.bring(0);
        due("LOCAL to group 1", 1, x.bring(1));
        x.up(1, false);
        due("START to group 1, which is down", BAD, x.bring(0));
        x.up(1, true);
        due("START to group 1, which is up", 2, x.bring(0));
        due("its LOCAL was kept", 1, x.time(0, 1, 1));
        due("VALUES to group 0", 1, x.bring(1));
        due("time(0, 0, 1)", BAD, x.time(0, 0, 1));
        x.up(0, false);
        due("LOCAL to group 0, which is down", BAD, x.bring(0));
        x.up(0, true);
        due("LOCAL to group 0, which is up", 1, x.bring(0));
        due("its VALUES were kept", 200, x.answer(0));
        due("the one that is left", VALUES, x.flight(0, 0));
    }
}
