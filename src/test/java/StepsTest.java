/**
 * What a group does behind a message, (1), (2), (3), as long as there is something to do: runs worked
 * out by hand, in which one message makes the group do much.
 */
public final class StepsTest {
    private static final int BAD = GroupOrder.BAD, OPEN = GroupOrder.OPEN;
    private static final int ADD = 0, MOVE = 1, SUM = 2, SWAP = 3;
    private static final int START = 0, LOCAL = 1, VALUES = 2;

    private final Checks checks = new Checks();

    public static void main(String[] args) {
        StepsTest test = new StepsTest();
        test.oneMessageLetsSeveralBeTaken();
        test.oneMessageLetsSeveralBeWorkedOut();
        test.valuesAreSentAsTheyAreThen();
        test.valuesThatCameEarlyCountInTheirTurn();
        test.finalTimesDecideAndNotLocalOnes();
        test.whatIsNotStartedHoldsNothingUp();
        test.ownValuesAreSentThoughTheOthersCameFirst();
        test.theFirstGroupToWorkOutAnswers();
        test.checks.end();
    }

    private void due(String call, long want, long got) {
        checks.due(call, want, got);
    }

    private void due(String call, boolean want, boolean got) {
        checks.due(call, want, got);
    }

    private void message(GroupOrder x, int i, int kind, int order, int from, int to) {
        int[] told = {kind, order, from, to};
        for (int what = 0; what < told.length; what++) {
            due("flight(" + i + ", " + what + ")", told[what], x.flight(i, what));
        }
    }

    /** Order 0 of both groups waits in group 0, and two orders of group 0 alone wait behind it. */
    private static GroupOrder twoBehindOne() {
        GroupOrder x = new GroupOrder(2);
        x.send(0, SUM, 0, 1, 0);
        x.bring(0);
        x.send(1, ADD, 0, 0, 5);
        x.bring(2);
        x.send(2, ADD, 2, 2, 7);
        x.bring(2);
        x.bring(0);
        return x;
    }

    private void oneMessageLetsSeveralBeTaken() {
        checks.about("terms, (2), \"as long as there is something to do\"");
        GroupOrder x = twoBehindOne();
        due("flying()", 2, x.flying());
        message(x, 1, LOCAL, 0, 1, 0);
        due("time(1, 0, 1)", 2, x.time(1, 0, 1));
        due("time(2, 0, 1)", 3, x.time(2, 0, 1));
        due("taken(0, 0) while an earlier one is not final", BAD, x.taken(0, 0));
        due("bring(1)", 2, x.bring(1));
        for (int k = 0; k < 3; k++) {
            due("taken(0, " + k + ")", k, x.taken(0, k));
        }
        due("taken(0, 3)", BAD, x.taken(0, 3));
        message(x, 1, VALUES, 0, 0, 1);
        due("count(3)", 0, x.count(3));
        due("value(0)", 100, x.value(0));
    }

    private void oneMessageLetsSeveralBeWorkedOut() {
        checks.about("terms, (3), \"as long as there is something to do\"");
        GroupOrder x = twoBehindOne();
        x.bring(1);
        x.bring(0);
        message(x, 1, VALUES, 0, 1, 0);
        due("answered(1) while the first order taken waits", false, x.answered(1));
        due("bring(1)", 1, x.bring(1));
        due("answer(0)", 200, x.answer(0));
        due("answer(1)", 105, x.answer(1));
        due("answer(2)", 107, x.answer(2));
        due("value(0)", 105, x.value(0));
        due("value(2)", 107, x.value(2));
        for (int client = 0; client < 3; client++) {
            due("seen(" + client + ")", client + 1, x.seen(client));
        }
        due("count(3)", 3, x.count(3));
        due("count(4)", 2, x.count(4));
        due("agree()", true, x.agree());
        due("bring(0)", 0, x.bring(0));
        due("count(4)", 3, x.count(4));
    }

    /** Three orders that meet in key 0; VALUES of order 0 is in group 0, and its LOCAL comes next. */
    private static GroupOrder threeOfOneKey() {
        GroupOrder x = new GroupOrder(2);
        x.send(0, MOVE, 0, 1, 30);
        x.send(1, ADD, 0, 0, 5);
        x.send(2, SWAP, 0, 1, 0);
        int[] brought = {0, 1, 1, 0, 0, 1, 2, 0, 1};
        for (int i : brought) {
            x.bring(i);
        }
        return x;
    }

    private void valuesAreSentAsTheyAreThen() {
        checks.about("terms, (3), \"the values of its own keys of the order, as they are now\"");
        GroupOrder x = threeOfOneKey();
        due("flying()", 1, x.flying());
        message(x, 0, LOCAL, 0, 1, 0);
        due("time(2, 0, 1)", 3, x.time(2, 0, 1));
        due("time(2, 1, 0)", 2, x.time(2, 1, 0));
        due("clock(1)", 3, x.clock(1));
        due("taken(0, 0)", BAD, x.taken(0, 0));
        due("taken(1, 1)", 2, x.taken(1, 1));
        due("bring(0)", 2, x.bring(0));
        message(x, 0, VALUES, 0, 0, 1);
        message(x, 1, VALUES, 2, 0, 1);
        due("answer(0)", 1, x.answer(0));
        due("answer(1)", 75, x.answer(1));
        due("answer(2)", OPEN, x.answer(2));
        due("value(0)", 75, x.value(0));
        due("value(1)", 100, x.value(1));
        x.bring(0);
        x.bring(0);
        due("value(1) gets what key 0 had behind orders 0 and 1", 75, x.value(1));
    }

    private void valuesThatCameEarlyCountInTheirTurn() {
        checks.about("terms, \"VALUES come to a group: it has that group's values for the order\"");
        GroupOrder x = threeOfOneKey();
        x.bring(0);
        due("bring(1)", 1, x.bring(1));
        due("value(1) while the first order taken waits", 100, x.value(1));
        due("time(2, 1, 2)", 0, x.time(2, 1, 2));
        due("bring(0)", 1, x.bring(0));
        message(x, 0, VALUES, 2, 1, 0);
        due("time(0, 1, 2)", 1, x.time(0, 1, 2));
        due("time(2, 1, 2)", 1, x.time(2, 1, 2));
        due("value(1)", 75, x.value(1));
        due("answer(2)", 130, x.answer(2));
        due("seen(2)", 3, x.seen(2));
        due("value(0) before its group works it out", 75, x.value(0));
        due("agree()", true, x.agree());
        due("bring(0)", 0, x.bring(0));
        due("value(0)", 130, x.value(0));
        due("count(4)", 3, x.count(4));
        due("agree()", true, x.agree());
    }

    private void finalTimesDecideAndNotLocalOnes() {
        checks.about("terms, (2), \"the least time (final, or else local)\"");
        GroupOrder x = new GroupOrder(2);
        for (int k = 0; k < 3; k++) {
            x.send(3, ADD, 1, 1, 1);
            x.bring(0);
        }
        x.send(0, SUM, 0, 1, 0);
        x.bring(0);
        x.send(1, ADD, 0, 0, 5);
        x.bring(2);
        due("time(3, 0, 0)", 1, x.time(3, 0, 0));
        due("time(4, 0, 1)", 2, x.time(4, 0, 1));
        due("taken(0, 0) while 3 may be the earlier one", BAD, x.taken(0, 0));
        x.bring(0);
        message(x, 1, LOCAL, 3, 1, 0);
        due("flight(1, 4)", 4, x.flight(1, 4));
        x.bring(1);
        due("time(3, 0, 1)", 4, x.time(3, 0, 1));
        due("clock(0)", 4, x.clock(0));
        due("taken(0, 0)", 4, x.taken(0, 0));
        due("taken(0, 1)", 3, x.taken(0, 1));
        due("answer(4)", 105, x.answer(4));
        due("answer(3)", OPEN, x.answer(3));
        x.bring(0);
        x.bring(1);
        due("answer(3)", 208, x.answer(3));
    }

    private void whatIsNotStartedHoldsNothingUp() {
        checks.about("terms, (2), \"of the orders for which START was there\"");
        GroupOrder x = new GroupOrder(2);
        x.send(0, SUM, 0, 1, 0);
        x.bring(1);
        message(x, 1, LOCAL, 0, 1, 0);
        x.bring(1);
        due("time(0, 0, 0) with the LOCAL alone", BAD, x.time(0, 0, 0));
        due("time(0, 0, 1) with the LOCAL alone", BAD, x.time(0, 0, 1));
        due("clock(0) with the LOCAL alone", 0, x.clock(0));
        x.send(1, ADD, 0, 0, 5);
        due("bring(1)", 1, x.bring(1));
        due("taken(0, 0)", 1, x.taken(0, 0));
        due("answer(1)", 105, x.answer(1));
        message(x, 0, START, 0, BAD, 0);
        due("bring(0)", 2, x.bring(0));
        due("time(0, 0, 0)", 2, x.time(0, 0, 0));
        due("time(0, 0, 1)", 2, x.time(0, 0, 1));
        due("taken(0, 1)", 0, x.taken(0, 1));
        message(x, 0, LOCAL, 0, 0, 1);
        message(x, 1, VALUES, 0, 0, 1);
    }

    private void ownValuesAreSentThoughTheOthersCameFirst() {
        checks.about("terms, (3), \"if its own values were not sent yet for it\"");
        GroupOrder x = new GroupOrder(2);
        x.send(0, SWAP, 1, 0, 0);
        x.send(1, ADD, 2, 2, 1);
        // Group 1 takes the order and sends its values while its LOCAL is still on the way.
        x.bring(0);
        x.bring(0);
        x.bring(1);
        message(x, 1, LOCAL, 0, 1, 0);
        message(x, 2, VALUES, 0, 1, 0);
        due("bring(2), VALUES before LOCAL", 2, x.bring(2));
        due("answered(0)", false, x.answered(0));
        due("bring(1), the LOCAL", 2, x.bring(1));
        message(x, 1, VALUES, 0, 0, 1);
        due("time(0, 0, 2)", 1, x.time(0, 0, 2));
        due("time(0, 1, 2)", 0, x.time(0, 1, 2));
        due("answer(0)", 100, x.answer(0));
    }

    private void theFirstGroupToWorkOutAnswers() {
        checks.about("terms, (3), \"If the order is not ANSWERED, it is now\"");
        GroupOrder x = new GroupOrder(2);
        x.send(0, MOVE, 0, 1, 30);
        for (int k = 0; k < 5; k++) {
            x.bring(0);
        }
        due("flying()", 1, x.flying());
        due("answer(0)", 1, x.answer(0));
        due("seen(0)", 1, x.seen(0));
        due("count(3)", 1, x.count(3));
        due("count(4)", 0, x.count(4));
        due("agree()", true, x.agree());
        x.bring(0);
        due("answer(0)", 1, x.answer(0));
        due("seen(0)", 1, x.seen(0));
        due("count(3)", 1, x.count(3));
        due("count(4)", 1, x.count(4));
        due("value(0)", 70, x.value(0));
        due("value(1)", 130, x.value(1));
    }
}
