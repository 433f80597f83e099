import java.lang.reflect.Array;
import java.lang.reflect.Field;

/**
 * What the document promises of states that no run of 512 calls reaches: 40 orders of 1,000,000 do
 * not come near the ends of 32 bits, and the theorem holds always. So these states are made from
 * inside the object, by its private fields.
 */
public final class InsideTest {
    private static final int BAD = GroupOrder.BAD, OPEN = GroupOrder.OPEN;
    private static final int ADD = 0, MOVE = 1, SUM = 2, SWAP = 3;
    private static final int LEAST = Edges.LEAST, MOST = Edges.MOST;

    private final Checks checks = new Checks();

    public static void main(String[] args) throws ReflectiveOperationException {
        InsideTest test = new InsideTest();
        // Key 0 is of group 0, key 1 of group 1, and keys 0 and 12 are of one group.
        for (int b : new int[] {1, 12}) {
            test.addWraps(b);
            test.moveWraps(b);
            test.sumWraps(b);
            test.swapKeeps(b);
        }
        test.ofOneKey();
        test.openMayBeAnAnswer();
        test.badMayBeAValue();
        test.agreeSeesValues();
        test.agreeSeesAnswers();
        test.agreeSeesTheOrderOfTaking();
        test.agreeSeesEqualTimes();
        test.agreeSeesClients();
        test.checks.end();
    }

    private static Object of(Object holder, String name) throws ReflectiveOperationException {
        Field field = holder.getClass().getDeclaredField(name);
        field.setAccessible(true);
        return field.get(holder);
    }

    private static void set(Object holder, String name, Object content) throws ReflectiveOperationException {
        Field field = holder.getClass().getDeclaredField(name);
        field.setAccessible(true);
        field.set(holder, content);
    }

    private static void setValue(GroupOrder x, int key, int value) throws ReflectiveOperationException {
        Array.setInt(of(x, "values"), key, value);
    }

    private static Object order(GroupOrder x, int number) throws ReflectiveOperationException {
        return Array.get(of(x, "orders"), number);
    }

    private static Object group(GroupOrder x, int number) throws ReflectiveOperationException {
        return Array.get(of(x, "groups"), number);
    }

    private static void bringAll(GroupOrder x) {
        int left = x.flying();
        for (int k = 0; k < 300 && left > 0; k++) {
            left = x.bring(0);
        }
    }

    /** One order on keys of these values: its answer, and what a and b have behind it. */
    private void worked(int[] order, int[] before, int[] behind) throws ReflectiveOperationException {
        GroupOrder x = new GroupOrder(3);
        setValue(x, order[1], before[0]);
        setValue(x, order[2], before[1]);
        x.send(0, order[0], order[1], order[2], order[3]);
        bringAll(x);
        String of = " of kind " + order[0] + ", " + order[1] + ", " + order[2] + ", " + order[3]
                + " on " + before[0] + ", " + before[1];
        checks.due("answered" + of, true, x.answered(0));
        checks.due("answer" + of, behind[0], x.answer(0));
        checks.due("a" + of, behind[1], x.value(order[1]));
        checks.due("b" + of, behind[2], x.value(order[2]));
    }

    private void addWraps(int b) throws ReflectiveOperationException {
        checks.about("terms, \"(All in 32 bits.)\", of kind 0");
        worked(new int[] {ADD, 0, b, 1}, new int[] {MOST, 7}, new int[] {LEAST, LEAST, 7});
        worked(new int[] {ADD, 0, b, 0}, new int[] {MOST, 7}, new int[] {MOST, MOST, 7});
        worked(new int[] {ADD, 0, b, 1_000_000}, new int[] {MOST - 999_999, 7},
                new int[] {LEAST, LEAST, 7});
        worked(new int[] {ADD, 0, b, 1_000_000}, new int[] {LEAST, 7},
                new int[] {LEAST + 1_000_000, LEAST + 1_000_000, 7});
    }

    private void moveWraps(int b) throws ReflectiveOperationException {
        checks.about("terms, \"(All in 32 bits.)\", of kind 1");
        worked(new int[] {MOVE, 0, b, 1}, new int[] {1, MOST}, new int[] {1, 0, LEAST});
        worked(new int[] {MOVE, 0, b, 1_000_000}, new int[] {MOST, MOST},
                new int[] {1, MOST - 1_000_000, LEAST + 999_999});
        // What is less than nothing is less than each c.
        worked(new int[] {MOVE, 0, b, 0}, new int[] {-1, 5}, new int[] {0, -1, 5});
        worked(new int[] {MOVE, 0, b, 1_000_000}, new int[] {LEAST, 5}, new int[] {0, LEAST, 5});
        worked(new int[] {MOVE, 0, b, 0}, new int[] {0, LEAST}, new int[] {1, 0, LEAST});
    }

    private void sumWraps(int b) throws ReflectiveOperationException {
        checks.about("terms, \"(All in 32 bits.)\", of kind 2");
        worked(new int[] {SUM, 0, b, 0}, new int[] {MOST, 1}, new int[] {LEAST, MOST, 1});
        worked(new int[] {SUM, 0, b, 0}, new int[] {MOST, MOST}, new int[] {-2, MOST, MOST});
        worked(new int[] {SUM, 0, b, 0}, new int[] {LEAST, LEAST}, new int[] {0, LEAST, LEAST});
        worked(new int[] {SUM, 0, b, 0}, new int[] {LEAST, MOST}, new int[] {-1, LEAST, MOST});
    }

    private void swapKeeps(int b) throws ReflectiveOperationException {
        checks.about("terms, \"(All in 32 bits.)\", of kind 3");
        worked(new int[] {SWAP, 0, b, 0}, new int[] {LEAST, MOST}, new int[] {MOST, MOST, LEAST});
        worked(new int[] {SWAP, b, 0, 0}, new int[] {-1, -2}, new int[] {-2, -2, -1});
    }

    private void ofOneKey() throws ReflectiveOperationException {
        checks.about("terms, \"(All in 32 bits.)\", of one key");
        worked(new int[] {MOVE, 5, 5, 1_000_000}, new int[] {MOST, MOST}, new int[] {1, MOST, MOST});
        worked(new int[] {MOVE, 5, 5, 0}, new int[] {-1, -1}, new int[] {0, -1, -1});
        worked(new int[] {SUM, 5, 5, 0}, new int[] {MOST, MOST}, new int[] {-2, MOST, MOST});
        worked(new int[] {SUM, 5, 5, 0}, new int[] {LEAST, LEAST}, new int[] {0, LEAST, LEAST});
        worked(new int[] {SWAP, 5, 5, 0}, new int[] {LEAST, LEAST}, new int[] {LEAST, LEAST, LEAST});
    }

    private void openMayBeAnAnswer() throws ReflectiveOperationException {
        checks.about("promise 9, \"OPEN (which may be one, too)\"");
        GroupOrder x = new GroupOrder(2);
        setValue(x, 0, -9);
        x.send(0, ADD, 0, 0, 7);
        checks.due("answer(0) before it comes", OPEN, x.answer(0));
        checks.due("answered(0) before it comes", false, x.answered(0));
        x.bring(0);
        checks.due("answer(0)", OPEN, x.answer(0));
        checks.due("answered(0)", true, x.answered(0));
        checks.due("count(3)", 1, x.count(3));
    }

    private void badMayBeAValue() throws ReflectiveOperationException {
        checks.about("promise 12, \"BAD (which may be one, too)\"");
        GroupOrder x = new GroupOrder(2);
        setValue(x, 0, -9);
        x.send(0, ADD, 0, 0, 8);
        x.send(0, SUM, 0, 1, 0);
        bringAll(x);
        checks.due("value(0)", BAD, x.value(0));
        checks.due("the sum with it", 99, x.answer(1));
        checks.due("the values that were -1 came, too", 2, x.count(4));
    }

    /** Two orders of client 0, one behind the other, of final times 1 and 2. */
    private GroupOrder twoOfOneClient() {
        GroupOrder x = new GroupOrder(2);
        x.send(0, ADD, 0, 0, 5);
        bringAll(x);
        x.send(0, MOVE, 0, 1, 30);
        bringAll(x);
        checks.due("agree() before anything is changed", true, x.agree());
        return x;
    }

    private void agreeSeesValues() throws ReflectiveOperationException {
        checks.about("promise 15, \"the values of groups\"");
        for (int key = 0; key < 16; key++) {
            GroupOrder x = twoOfOneClient();
            int value = x.value(key);
            setValue(x, key, value + 1);
            checks.due("agree() with another value of " + key, false, x.agree());
            setValue(x, key, value);
            checks.due("agree() with the value of " + key, true, x.agree());
        }
        GroupOrder none = new GroupOrder(2);
        setValue(none, 15, 99);
        checks.due("agree() with no order and another value", false, none.agree());
    }

    private void agreeSeesAnswers() throws ReflectiveOperationException {
        checks.about("promise 15, \"all answers\"");
        for (int order = 0; order < 2; order++) {
            GroupOrder x = twoOfOneClient();
            int answer = x.answer(order);
            set(order(x, order), "result", answer + 1);
            checks.due("agree() with another answer of " + order, false, x.agree());
            set(order(x, order), "result", answer);
            checks.due("agree() with the answer of " + order, true, x.agree());
        }
    }

    private static void changeTaken(GroupOrder x, int number) throws ReflectiveOperationException {
        Object taken = of(group(x, number), "takenParts");
        Object first = Array.get(taken, 0);
        Array.set(taken, 0, Array.get(taken, 1));
        Array.set(taken, 1, first);
    }

    private void agreeSeesTheOrderOfTaking() throws ReflectiveOperationException {
        checks.about("promise 15, \"all groups took orders in the order of final times\"");
        for (int number = 0; number < 2; number++) {
            GroupOrder x = new GroupOrder(2);
            // Answers and values that do not depend on which is first.
            x.send(0, SUM, 0, 1, 0);
            x.send(1, SUM, 0, 1, 0);
            bringAll(x);
            checks.due("agree()", true, x.agree());
            changeTaken(x, number);
            checks.due("agree() when group " + number + " took them otherwise", false, x.agree());
        }
    }

    private void agreeSeesEqualTimes() throws ReflectiveOperationException {
        checks.about("promise 15, \"of equal ones the lesser first\"");
        for (int number = 0; number < 2; number++) {
            GroupOrder x = new GroupOrder(2);
            x.send(0, SUM, 0, 1, 0);
            x.send(1, SUM, 0, 1, 0);
            x.bring(1);
            x.bring(1);
            bringAll(x);
            checks.due("final time of 0", 2, x.time(0, number, 1));
            checks.due("final time of 1", 2, x.time(1, number, 1));
            checks.due("agree()", true, x.agree());
            changeTaken(x, number);
            checks.due("agree() when group " + number + " took the greater first", false, x.agree());
        }
    }

    private void agreeSeesClients() throws ReflectiveOperationException {
        checks.about("promise 15, \"orders of one client that were sent when another one was answered"
                + " behind that one\"");
        GroupOrder x = new GroupOrder(2);
        x.send(0, ADD, 0, 0, 1);
        x.send(0, ADD, 2, 0, 1);
        // Order 1 comes first, which is right, as order 0 was not answered when it was sent.
        x.bring(1);
        x.bring(0);
        checks.due("agree()", true, x.agree());
        set(order(x, 1), "answeredBefore", 1L);
        checks.due("agree() if order 0 had been answered", false, x.agree());
    }
}
