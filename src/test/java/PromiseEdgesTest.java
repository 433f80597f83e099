/** Each sentence of a promise that names a boundary case has a test of its own here. */
public final class PromiseEdgesTest {
    private static final int BAD = GroupOrder.BAD, OPEN = GroupOrder.OPEN;
    private static final int ADD = 0, MOVE = 1, SUM = 2, SWAP = 3;
    private static final int START = 0, LOCAL = 1, VALUES = 2;

    private final Checks checks = new Checks();

    public static void main(String[] args) {
        PromiseEdgesTest test = new PromiseEdgesTest();
        test.groupsBelowTwoAndAboveFour();
        test.leastAndGreatestAmount();
        test.noSuchClientKindKeyAmount();
        test.thereAreForty();
        test.thereAreFortyWhenAllAreAnswered();
        test.noSuchMessageIsBrought();
        test.messageToGroupThatIsDownStays();
        test.noSuchMessageIsBroughtTwice();
        test.messageToGroupThatIsDownDoesNotComeTwice();
        test.noSuchGroupIsUp();
        test.groupThatMessageComesFrom();
        test.localTimeOfMessage();
        test.flightOfNoSuchMessage();
        test.flyingWithNone();
        test.noSuchTaken();
        test.answerIsOpen();
        test.answeredIsFalse();
        test.timesThatAreNotThere();
        test.timesThatAreNotThereYet();
        test.workedOutIsOneOrZero();
        test.noSuchValue();
        test.noSuchClock();
        test.noSuchSeen();
        test.agreeWithNoOrder();
        test.agreeWithNoneAnswered();
        test.agreeWithEqualFinalTimes();
        test.agreeWithEqualFinalTimesApart();
        test.agreeWithAFollowerThatIsNotFinal();
        test.noSuchCount();
        test.checks.end();
    }

    private void due(String call, long want, long got) {
        checks.due(call, want, got);
    }

    private void due(String call, boolean want, boolean got) {
        checks.due(call, want, got);
    }

    // Promise 1

    private void groupsBelowTwoAndAboveFour() {
        checks.about("promise 1, \"n is groups, but 2 if that is less, 4 if more\"");
        for (int groups : Edges.outside(2, 4)) {
            groupsAre(groups, groups < 2 ? 2 : 4);
        }
        for (int groups = 2; groups <= 4; groups++) {
            groupsAre(groups, groups);
        }
    }

    private void groupsAre(int asked, int n) {
        GroupOrder x = new GroupOrder(asked);
        String of = " of " + asked + " groups";
        due("count(0)" + of, n, x.count(0));
        for (int group = 0; group < n; group++) {
            due("clock(" + group + ")" + of, 0, x.clock(group));
            due("up(" + group + ", true)" + of, true, x.up(group, true));
        }
        due("clock(" + n + ")" + of, BAD, x.clock(n));
        due("up(" + n + ", true)" + of, false, x.up(n, true));
        for (int key = 0; key < 16; key++) {
            x.send(0, ADD, key, 0, 1);
            due("the group of key " + key + of, key % n, x.flight(key, 3));
        }
    }

    // Promise 2

    private void leastAndGreatestAmount() {
        checks.about("promise 2, \"(c 0 .. 1,000,000)\"");
        GroupOrder x = new GroupOrder(2);
        int sent = 0;
        for (int kind = 0; kind < 4; kind++) {
            for (int c : new int[] {0, 1, 999_999, 1_000_000}) {
                due("send of kind " + kind + " and c " + c, sent, x.send(0, kind, 0, 1, c));
                sent++;
            }
            for (int c : Edges.outside(0, 1_000_000)) {
                due("send of kind " + kind + " and c " + c, BAD, x.send(0, kind, 0, 1, c));
            }
        }
        due("count(1)", sent, x.count(1));
        GroupOrder y = new GroupOrder(2);
        y.send(0, ADD, 0, 0, 1_000_000);
        y.send(0, MOVE, 0, 2, 1_000_000);
        y.send(0, ADD, 4, 4, 0);
        y.send(0, MOVE, 4, 6, 0);
        int[] answers = {1_000_100, 1, 100, 1};
        for (int order = 0; order < answers.length; order++) {
            y.bring(0);
            due("answer(" + order + ")", answers[order], y.answer(order));
        }
        due("value(0)", 100, y.value(0));
        due("value(2)", 1_000_100, y.value(2));
        due("value(4)", 100, y.value(4));
        due("value(6)", 100, y.value(6));
    }

    private void noSuchClientKindKeyAmount() {
        checks.about("promise 2, \"BAD: none such client, kind, key, c\"");
        for (int client : Edges.outside(0, 3)) {
            refused(client, ADD, 0, 0, 0);
            refused(client, SWAP, 15, 14, 1_000_000);
        }
        for (int kind : Edges.outside(0, 3)) {
            refused(0, kind, 0, 0, 0);
            refused(3, kind, 15, 14, 1_000_000);
        }
        for (int kind = 0; kind < 4; kind++) {
            for (int key : Edges.outside(0, 15)) {
                refused(0, kind, key, 0, 0);
                refused(0, kind, 0, key, 0);
                refused(0, kind, key, key, 0);
            }
            for (int c : Edges.outside(0, 1_000_000)) {
                refused(0, kind, 0, 0, c);
                refused(3, kind, 15, 14, c);
            }
        }
        for (int wrong : new int[] {Edges.LEAST, -1, 1_000_001, Edges.MOST}) {
            refused(wrong, wrong, wrong, wrong, wrong);
        }
    }

    /** In the midst of a run: the refused order has no number, puts nothing, and changes nothing. */
    private void refused(int client, int kind, int a, int b, int c) {
        String call = "send(" + client + ", " + kind + ", " + a + ", " + b + ", " + c + ")";
        Pair pair = new Pair(3, checks, "before and behind " + call);
        pair.send(1, MOVE, 0, 1, 10);
        pair.send(2, ADD, 2, 0, 5);
        pair.bring(2);
        pair.bring(0);
        due(call, BAD, pair.send(client, kind, a, b, c));
        pair.lookAround();
        pair.lookCloser();
        due("the next order behind " + call, 2, pair.send(0, ADD, 0, 0, 1));
    }

    private void thereAreForty() {
        checks.about("promise 2, \"BAD: .. there are 40\", and terms, \"(at most 40)\"");
        for (int kind = 0; kind < 4; kind++) {
            GroupOrder x = new GroupOrder(2);
            for (int order = 0; order < 40; order++) {
                due("order " + order, order, x.send(order % 4, kind, 0, 1, 1));
                due("a refused one does not count", BAD, x.send(4, kind, 0, 1, 1));
            }
            int starts = kind == ADD ? 40 : 80;
            due("flying()", starts, x.flying());
            for (int client = 0; client < 4; client++) {
                due("the 41st of client " + client, BAD, x.send(client, kind, 0, 1, 1));
            }
            due("flying() behind the 41st", starts, x.flying());
            due("count(1) behind the 41st", 40, x.count(1));
            due("answered(40)", false, x.answered(40));
            due("time(40, 0, 2)", BAD, x.time(40, 0, 2));
            due("time(39, 0, 2)", 0, x.time(39, 0, 2));
            due("the order of the last message", 39, x.flight(starts - 1, 1));
        }
    }

    private void thereAreFortyWhenAllAreAnswered() {
        checks.about("promise 2, \"BAD: .. there are 40\", and terms, \"(at most 40)\"");
        GroupOrder x = new GroupOrder(2);
        for (int order = 0; order < 40; order++) {
            due("order " + order, order, x.send(order % 4, ADD, 0, 0, 1));
            due("bring", 0, x.bring(0));
        }
        due("count(4)", 40, x.count(4));
        due("the 41st", BAD, x.send(0, ADD, 0, 0, 1));
        due("flying()", 0, x.flying());
        due("count(1)", 40, x.count(1));
        due("value(0)", 140, x.value(0));
        due("answer(39)", 140, x.answer(39));
        due("answer(40)", OPEN, x.answer(40));
        due("taken(0, 39)", 39, x.taken(0, 39));
        due("taken(0, 40)", BAD, x.taken(0, 40));
        due("agree()", true, x.agree());
    }

    // Promises 3 and 4

    private void noSuchMessageIsBrought() {
        checks.about("promise 3, \"BAD: none such\"");
        noSuchMessage(false);
    }

    private void noSuchMessageIsBroughtTwice() {
        checks.about("promise 4, \"BAD as above\": none such");
        noSuchMessage(true);
    }

    private static int come(GroupOrder x, int i, boolean twice) {
        return twice ? x.twice(i) : x.bring(i);
    }

    private void noSuchMessage(boolean twice) {
        GroupOrder x = new GroupOrder(2);
        for (int i : Edges.outside(0, 0)) {
            due(i + ", where none is in flight", BAD, come(x, i, twice));
        }
        due("0, where none is in flight", BAD, come(x, 0, twice));
        x.send(0, MOVE, 0, 1, 30);
        x.send(1, ADD, 1, 1, 5);
        for (int i : Edges.outside(0, 2)) {
            due(i + ", where three are in flight", BAD, come(x, i, twice));
        }
        due("flying() behind those", 3, x.flying());
        due("count(2) behind those", 0, x.count(2));
        due("clock(0) behind those", 0, x.clock(0));
        due("clock(1) behind those", 0, x.clock(1));
        due("the last of three", twice ? 3 : 2, come(x, 2, twice));
        due("answer(1)", 105, x.answer(1));
        int left = x.flying();
        for (int k = 0; k < 9 && left > 0; k++) {
            left = x.bring(0);
        }
        due("0, where none is left", BAD, come(x, 0, twice));
        due("count(2) behind that", twice ? 8 : 7, x.count(2));
    }

    private void messageToGroupThatIsDownStays() {
        checks.about("promise 3, \"BAD: .. its group is down: it stays\"");
        messageToGroupThatIsDown(false);
        // Each kind of message stays.
        GroupOrder x = new GroupOrder(2);
        x.send(0, MOVE, 0, 1, 30);
        int[] kinds = {START, START, LOCAL, LOCAL, VALUES, VALUES};
        for (int k = 0; k < kinds.length; k++) {
            int group = x.flight(0, 3);
            x.up(group, false);
            due("the kind", kinds[k], x.flight(0, 0));
            due("bring to a group that is down", BAD, x.bring(0));
            due("the kind of the one that stays", kinds[k], x.flight(0, 0));
            due("the goal of the one that stays", group, x.flight(0, 3));
            due("count(2)", k, x.count(2));
            x.up(group, true);
            due("bring to a group that is up again", true, x.bring(0) != BAD);
        }
        due("value(0)", 70, x.value(0));
        due("value(1)", 130, x.value(1));
        due("count(4)", 1, x.count(4));
    }

    private void messageToGroupThatIsDownDoesNotComeTwice() {
        checks.about("promise 4, \"BAD as above\": its group is down");
        messageToGroupThatIsDown(true);
    }

    private void messageToGroupThatIsDown(boolean twice) {
        GroupOrder x = new GroupOrder(2);
        x.send(0, ADD, 0, 0, 1);
        x.send(1, ADD, 1, 0, 2);
        x.send(2, ADD, 2, 0, 3);
        x.up(1, false);
        due("1, whose group is down", BAD, come(x, 1, twice));
        due("1, whose group is down, again", BAD, come(x, 1, twice));
        due("flying()", 3, x.flying());
        due("the order of message 1", 1, x.flight(1, 1));
        due("count(2)", 0, x.count(2));
        due("clock(1)", 0, x.clock(1));
        due("answered(1)", false, x.answered(1));
        due("2, whose group is up", twice ? 3 : 2, come(x, 2, twice));
        due("answer(2)", 103, x.answer(2));
        x.up(1, true);
        due("1, whose group is up again", twice ? 3 : 1, come(x, 1, twice));
        due("answer(1)", 102, x.answer(1));
        due("count(2)", 2, x.count(2));
    }

    // Promise 5

    private void noSuchGroupIsUp() {
        checks.about("promise 5, \"False: none such\"");
        for (int n = 2; n <= 4; n++) {
            GroupOrder x = new GroupOrder(n);
            for (int group : Edges.outside(0, n - 1)) {
                due("up(" + group + ", false)", false, x.up(group, false));
                due("up(" + group + ", true)", false, x.up(group, true));
                due("up(" + group + ", false)", false, x.up(group, false));
            }
            for (int group = 0; group < n; group++) {
                x.send(0, ADD, group, 0, 1);
                due("bring to group " + group + ", which is still up", 0, x.bring(0));
                due("up(" + group + ", true)", true, x.up(group, true));
                due("up(" + group + ", false)", true, x.up(group, false));
                due("up(" + group + ", false)", true, x.up(group, false));
                x.send(0, ADD, group, 0, 1);
                due("bring to group " + group + ", which is down", BAD, x.bring(0));
                due("up(" + group + ", true)", true, x.up(group, true));
                due("up(" + group + ", true)", true, x.up(group, true));
                due("bring to group " + group + ", which is up", 0, x.bring(0));
            }
        }
    }

    // Promises 6 and 7

    /** One order of groups 0 and 1 of n, and of its messages the kind that is looked for, first. */
    private static GroupOrder withFirst(int kind, int n) {
        GroupOrder x = new GroupOrder(n);
        x.send(0, MOVE, 0, 1, 30);
        for (int k = 0; k < 2 * kind; k++) {
            x.bring(0);
        }
        return x;
    }

    private void groupThatMessageComesFrom() {
        checks.about("promise 6, \"the group it comes from (BAD for START)\"");
        for (int n = 2; n <= 4; n++) {
            GroupOrder x = new GroupOrder(n);
            for (int key = 0; key < 16; key++) {
                x.send(0, ADD, key, 0, 1);
                due("flight(" + key + ", 2) of a START", BAD, x.flight(key, 2));
            }
            due("flight(0, 2) of a START", BAD, withFirst(START, n).flight(0, 2));
            due("flight(1, 2) of a START", BAD, withFirst(START, n).flight(1, 2));
            for (int kind = LOCAL; kind <= VALUES; kind++) {
                GroupOrder y = withFirst(kind, n);
                // The first START comes to group 0, its LOCAL to group 1, which sends VALUES first.
                int first = kind == LOCAL ? 0 : 1;
                due("the kind", kind, y.flight(0, 0));
                due("flight(0, 2) of kind " + kind, first, y.flight(0, 2));
                due("flight(0, 3) of kind " + kind, 1 - first, y.flight(0, 3));
                due("flight(1, 2) of kind " + kind, 1 - first, y.flight(1, 2));
                due("flight(1, 3) of kind " + kind, first, y.flight(1, 3));
            }
        }
    }

    private void localTimeOfMessage() {
        checks.about("promise 6, \"the local time (BAD, if it is no LOCAL)\"");
        for (int i = 0; i < 2; i++) {
            due("flight(" + i + ", 4) of a START", BAD, withFirst(START, 2).flight(i, 4));
            due("flight(" + i + ", 4) of a LOCAL", 1, withFirst(LOCAL, 2).flight(i, 4));
            due("flight(" + i + ", 4) of a VALUES", BAD, withFirst(VALUES, 2).flight(i, 4));
        }
        // The time is the one that the group said, whatever its clock is now.
        GroupOrder x = new GroupOrder(2);
        for (int k = 0; k < 38; k++) {
            x.send(0, ADD, 0, 0, 1);
            x.bring(0);
        }
        x.send(1, SUM, 0, 1, 0);
        x.bring(0);
        x.send(2, ADD, 0, 0, 1);
        x.bring(2);
        due("clock(0)", 40, x.clock(0));
        due("flight(0, 4) of a START", BAD, x.flight(0, 4));
        due("flight(1, 4) of a LOCAL", 39, x.flight(1, 4));
        x.twice(1);
        due("flight(1, 4) of a LOCAL that has come", 39, x.flight(1, 4));
    }

    private void flightOfNoSuchMessage() {
        checks.about("promise 6, \"BAD: none such\"");
        GroupOrder none = new GroupOrder(2);
        for (int what = 0; what <= 4; what++) {
            due("flight(0, " + what + ") with none", BAD, none.flight(0, what));
        }
        for (int kind = START; kind <= VALUES; kind++) {
            GroupOrder x = withFirst(kind, 4);
            for (int i : Edges.outside(0, 1)) {
                for (int what = 0; what <= 4; what++) {
                    due("flight(" + i + ", " + what + ")", BAD, x.flight(i, what));
                }
            }
            for (int what : Edges.outside(0, 4)) {
                due("flight(0, " + what + ")", BAD, x.flight(0, what));
                due("flight(1, " + what + ")", BAD, x.flight(1, what));
                due("flight(2, " + what + ")", BAD, x.flight(2, what));
                due("flight(-1, " + what + ")", BAD, x.flight(-1, what));
            }
        }
    }

    private void flyingWithNone() {
        checks.about("promise 7, \"How many messages are in flight\", with none");
        GroupOrder x = new GroupOrder(2);
        due("flying() at first", 0, x.flying());
        x.send(-1, ADD, 0, 0, 1);
        due("flying() behind a refused order", 0, x.flying());
        x.bring(0);
        x.twice(0);
        due("flying() behind refused messages", 0, x.flying());
        x.up(0, false);
        x.up(0, true);
        due("flying() behind up", 0, x.flying());
        x.send(0, ADD, 0, 0, 1);
        due("flying() with one", 1, x.flying());
        x.twice(0);
        due("flying() with the one that came and stayed", 1, x.flying());
        x.bring(0);
        due("flying() when it has come again", 0, x.flying());
        x.send(0, SWAP, 0, 1, 1);
        for (int k = 0; k < 6; k++) {
            due("flying() behind " + k + " of six", k == 5 ? 1 : 2, x.flying());
            x.bring(0);
        }
        due("flying() behind all six", 0, x.flying());
    }

    // Promises 8 to 11

    private void noSuchTaken() {
        checks.about("promise 8, \"BAD: none such\"");
        GroupOrder x = new GroupOrder(3);
        for (int k : Edges.outside(0, 0)) {
            due("taken(0, " + k + ") with none", BAD, x.taken(0, k));
        }
        due("taken(0, 0) with none", BAD, x.taken(0, 0));
        for (int order = 0; order < 3; order++) {
            x.send(0, ADD, 3, 0, 1);
            x.bring(0);
        }
        for (int k = 0; k < 3; k++) {
            due("taken(0, " + k + ")", k, x.taken(0, k));
            due("taken(1, " + k + ")", BAD, x.taken(1, k));
        }
        for (int k : Edges.outside(0, 2)) {
            due("taken(0, " + k + ") of three", BAD, x.taken(0, k));
        }
        for (int group : Edges.outside(0, 2)) {
            due("taken(" + group + ", 0)", BAD, x.taken(group, 0));
            due("taken(" + group + ", " + group + ")", BAD, x.taken(group, group));
        }
        // It has come, but is not taken: the other group's time is not there.
        x.send(0, SUM, 0, 1, 0);
        x.bring(0);
        due("taken(0, 3) of one that waits", BAD, x.taken(0, 3));
    }

    private void answerIsOpen() {
        checks.about("promise 9, \"OPEN (which may be one, too): not yet; none such\"");
        GroupOrder x = new GroupOrder(2);
        due("answer(0) with none", OPEN, x.answer(0));
        x.send(0, SUM, 0, 1, 0);
        x.send(1, ADD, 0, 0, 0);
        for (int order : Edges.outside(0, 1)) {
            due("answer(" + order + ")", OPEN, x.answer(order));
        }
        due("answer(39)", OPEN, x.answer(39));
        due("answer(40)", OPEN, x.answer(40));
        for (int k = 0; k < 6; k++) {
            due("answer(0) behind " + k, OPEN, x.answer(0));
            due("answer(1) behind " + k, OPEN, x.answer(1));
            x.bring(0);
        }
        due("answer(0) when one group has worked it out", 200, x.answer(0));
        for (int order : Edges.outside(0, 1)) {
            due("answer(" + order + ")", OPEN, x.answer(order));
        }
    }

    private void answeredIsFalse() {
        checks.about("promise 10, \"False also: none such\"");
        GroupOrder x = new GroupOrder(2);
        due("answered(0) with none", false, x.answered(0));
        x.send(0, ADD, 0, 0, 0);
        x.send(0, ADD, 0, 0, 0);
        due("answered(0) before it comes", false, x.answered(0));
        x.bring(0);
        x.bring(0);
        due("answered(0)", true, x.answered(0));
        due("answered(1)", true, x.answered(1));
        for (int order : Edges.outside(0, 1)) {
            due("answered(" + order + ")", false, x.answered(order));
        }
        due("answered(39)", false, x.answered(39));
        due("answered(40)", false, x.answered(40));
    }

    private void timesThatAreNotThere() {
        checks.about("promise 11, \"BAD: none such\"");
        GroupOrder x = new GroupOrder(3);
        for (int what = 0; what <= 2; what++) {
            due("time(0, 0, " + what + ") with none", BAD, x.time(0, 0, what));
        }
        x.send(0, ADD, 0, 0, 1);
        x.send(1, MOVE, 0, 1, 1);
        for (int k = 0; k < 7; k++) {
            x.bring(0);
        }
        due("count(4)", 2, x.count(4));
        for (int what = 0; what <= 2; what++) {
            for (int order : Edges.outside(0, 1)) {
                due("time(" + order + ", 0, " + what + ")", BAD, x.time(order, 0, what));
                due("time(" + order + ", 3, " + what + ")", BAD, x.time(order, 3, what));
            }
            for (int group : Edges.outside(0, 2)) {
                due("time(1, " + group + ", " + what + ")", BAD, x.time(1, group, what));
                due("time(2, " + group + ", " + what + ")", BAD, x.time(2, group, what));
            }
        }
        for (int what : Edges.outside(0, 2)) {
            for (int group = 0; group <= 3; group++) {
                due("time(1, " + group + ", " + what + ")", BAD, x.time(1, group, what));
            }
        }
        // A group that is none of the order's never has a time of it.
        due("time(0, 1, 0)", BAD, x.time(0, 1, 0));
        due("time(0, 1, 1)", BAD, x.time(0, 1, 1));
        due("time(1, 2, 0)", BAD, x.time(1, 2, 0));
        due("time(1, 2, 1)", BAD, x.time(1, 2, 1));
    }

    private void timesThatAreNotThereYet() {
        checks.about("promise 11, \"BAD: .. it has not that yet\"");
        GroupOrder x = new GroupOrder(2);
        x.send(0, MOVE, 0, 1, 1);
        int[][] ofGroup0 = {{BAD, BAD}, {1, BAD}, {1, BAD}, {1, BAD}, {1, 1}};
        int[][] ofGroup1 = {{BAD, BAD}, {BAD, BAD}, {1, BAD}, {1, 1}, {1, 1}};
        for (int k = 0; k < ofGroup0.length; k++) {
            for (int what = 0; what <= 1; what++) {
                due("time(0, 0, " + what + ") behind " + k, ofGroup0[k][what], x.time(0, 0, what));
                due("time(0, 1, " + what + ") behind " + k, ofGroup1[k][what], x.time(0, 1, what));
            }
            x.bring(0);
        }
        // The other's time alone is none of its own.
        GroupOrder y = new GroupOrder(2);
        y.send(0, MOVE, 0, 1, 1);
        y.bring(0);
        y.bring(1);
        due("time(0, 1, 0) when LOCAL came before START", BAD, y.time(0, 1, 0));
        due("time(0, 1, 1) when LOCAL came before START", BAD, y.time(0, 1, 1));
    }

    private void workedOutIsOneOrZero() {
        checks.about("promise 11, \"2 whether it is worked out there (1 or 0)\"");
        GroupOrder x = new GroupOrder(3);
        x.send(0, MOVE, 0, 1, 1);
        for (int k = 0; k < 5; k++) {
            for (int group = 0; group < 3; group++) {
                due("time(0, " + group + ", 2) behind " + k, 0, x.time(0, group, 2));
            }
            x.bring(0);
        }
        due("time(0, 0, 2) behind its VALUES", 1, x.time(0, 0, 2));
        due("time(0, 1, 2) before its VALUES", 0, x.time(0, 1, 2));
        x.bring(0);
        due("time(0, 0, 2) at the end", 1, x.time(0, 0, 2));
        due("time(0, 1, 2) at the end", 1, x.time(0, 1, 2));
        due("time(0, 2, 2), none of its groups", 0, x.time(0, 2, 2));
        x.send(0, ADD, 2, 0, 1);
        due("time(1, 2, 2) before it comes", 0, x.time(1, 2, 2));
        x.bring(0);
        due("time(1, 2, 2) behind it", 1, x.time(1, 2, 2));
        due("time(1, 0, 2), the group of b, which counts for nothing", 0, x.time(1, 0, 2));
    }

    // Promises 12 to 14

    private void noSuchValue() {
        checks.about("promise 12, \"BAD (which may be one, too): none such\"");
        for (int n = 2; n <= 4; n++) {
            GroupOrder x = new GroupOrder(n);
            for (int key : Edges.outside(0, 15)) {
                due("value(" + key + ")", BAD, x.value(key));
            }
            for (int key = 0; key < 16; key++) {
                due("value(" + key + ")", 100, x.value(key));
            }
        }
    }

    private void noSuchClock() {
        checks.about("promise 13, \"BAD: none such\"");
        for (int n = 2; n <= 4; n++) {
            GroupOrder x = new GroupOrder(n);
            for (int group : Edges.outside(0, n - 1)) {
                due("clock(" + group + ") of " + n, BAD, x.clock(group));
            }
            for (int group = 0; group < n; group++) {
                due("clock(" + group + ") of " + n, 0, x.clock(group));
                x.send(0, ADD, group, 0, 1);
                x.bring(0);
                due("clock(" + group + ") behind an order", group + 1, x.clock(group));
            }
        }
    }

    private void noSuchSeen() {
        checks.about("promise 14, \"BAD: none such\"");
        GroupOrder x = new GroupOrder(2);
        for (int client : Edges.outside(0, 3)) {
            due("seen(" + client + ")", BAD, x.seen(client));
        }
        for (int client = 0; client < 4; client++) {
            due("seen(" + client + ")", 0, x.seen(client));
            x.send(client, ADD, 0, 0, 1);
            x.bring(0);
            due("seen(" + client + ") behind an order", client + 1, x.seen(client));
        }
    }

    // Promises 15 and 16

    private void agreeWithNoOrder() {
        checks.about("promise 15, with no order at all");
        for (int n = 2; n <= 4; n++) {
            GroupOrder x = new GroupOrder(n);
            due("agree() of " + n, true, x.agree());
            x.send(0, ADD, 0, 0, -1);
            x.bring(0);
            x.up(0, false);
            due("agree() of " + n + " behind refused calls", true, x.agree());
        }
    }

    private void agreeWithNoneAnswered() {
        checks.about("promise 15, with none answered");
        GroupOrder x = new GroupOrder(2);
        x.send(0, MOVE, 0, 1, 30);
        x.send(1, SWAP, 2, 1, 0);
        due("agree() when they are sent", true, x.agree());
        // Each START and LOCAL: both orders are final and taken, and the values are in flight.
        for (int k = 0; k < 8; k++) {
            x.bring(0);
            due("agree() behind " + k, true, x.agree());
        }
        due("taken(0, 1)", 1, x.taken(0, 1));
        due("taken(1, 1)", 1, x.taken(1, 1));
        due("count(3)", 0, x.count(3));
    }

    private void agreeWithEqualFinalTimes() {
        checks.about("promise 15, where of final times there are \"equal ones\"");
        GroupOrder x = new GroupOrder(2);
        x.send(0, MOVE, 0, 1, 60);
        x.send(1, MOVE, 0, 1, 60);
        // Group 1 says times 1 and 2 of them, group 0 says 2 and 1: both are final at 2.
        x.bring(1);
        x.bring(1);
        for (int k = 2; k < 12; k++) {
            x.bring(0);
            due("agree() behind " + k, true, x.agree());
        }
        due("flying()", 0, x.flying());
        for (int group = 0; group < 2; group++) {
            due("final time of 0 in " + group, 2, x.time(0, group, 1));
            due("final time of 1 in " + group, 2, x.time(1, group, 1));
            due("taken(" + group + ", 0)", 0, x.taken(group, 0));
            due("taken(" + group + ", 1)", 1, x.taken(group, 1));
        }
        due("answer of the lesser", 1, x.answer(0));
        due("answer of the greater", 0, x.answer(1));
        due("value(0)", 40, x.value(0));
        due("value(1)", 160, x.value(1));
    }

    /** The order that is not there in a group has a final time of its own, equal to another's. */
    private void agreeWithEqualFinalTimesApart() {
        checks.about("promise 15, where of final times there are \"equal ones\"");
        for (int first = 0; first < 4; first++) {
            GroupOrder x = new GroupOrder(4);
            for (int order = 0; order < 4; order++) {
                x.send(order, ADD, order, 0, order);
            }
            x.bring(first);
            due("agree() with one answered", true, x.agree());
            for (int left = 2; left >= 0; left--) {
                due("bring(" + left + ")", left, x.bring(left));
                due("agree() with " + left + " left", true, x.agree());
            }
            for (int order = 0; order < 4; order++) {
                due("final time of " + order, 1, x.time(order, order, 1));
            }
        }
    }

    private void agreeWithAFollowerThatIsNotFinal() {
        checks.about("promise 15, \"orders of one client that were sent when another one was answered\"");
        GroupOrder x = new GroupOrder(2);
        x.send(0, ADD, 0, 0, 5);
        x.bring(0);
        x.send(0, MOVE, 1, 0, 30);
        for (int k = 0; k < 6; k++) {
            due("agree() behind " + k, true, x.agree());
            x.bring(0);
        }
        due("agree() at the end", true, x.agree());
        due("time(0, 0, 1)", 1, x.time(0, 0, 1));
        due("time(1, 0, 1)", 2, x.time(1, 0, 1));
    }

    private void noSuchCount() {
        checks.about("promise 16, \"BAD: another number\"");
        for (int n = 2; n <= 4; n++) {
            GroupOrder x = new GroupOrder(n);
            for (int what : Edges.outside(0, 4)) {
                due("count(" + what + ")", BAD, x.count(what));
            }
            x.send(0, ADD, 0, 0, 0);
            x.send(0, ADD, 1, 0, 0);
            x.bring(0);
            int[] counts = {n, 2, 1, 1, 1};
            for (int what = 0; what < counts.length; what++) {
                due("count(" + what + ")", counts[what], x.count(what));
            }
            for (int what : Edges.outside(0, 4)) {
                due("count(" + what + ")", BAD, x.count(what));
            }
        }
    }
}
