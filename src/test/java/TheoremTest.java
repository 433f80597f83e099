import java.util.ArrayList;
import java.util.HashMap;
import java.util.List;
import java.util.Map;
import java.util.Random;

/**
 * What agree() promises, worked out from the other calls alone: in states in the midst of a run,
 * and again when everything has been brought. Ten orders keep a run below 512 calls: 90 to play,
 * 45 to ask what is answered, 62 to bring the rest, and 121 for each of two looks at the state.
 */
public final class TheoremTest {
    private static final int RUNS = 6000;
    private static final int ORDERS = 10;
    private static final int MOST_STEPS = 80;

    private final Checks checks;
    private final Random random;
    private final int n;
    private final GroupOrder x;
    private final String run;
    private final List<int[]> sent = new ArrayList<>();
    private final List<List<Integer>> answeredBefore = new ArrayList<>();
    private final int[] finalTimes = new int[ORDERS];
    private int flying = 0;

    private TheoremTest(int seed, Checks checks) {
        this.checks = checks;
        random = new Random(seed);
        n = 2 + random.nextInt(3);
        x = new GroupOrder(n);
        run = "run " + seed + " of " + n + " groups: ";
    }

    public static void main(String[] args) {
        Checks checks = new Checks();
        for (int seed = 0; seed < RUNS && checks.wrong() == 0; seed++) {
            TheoremTest test = new TheoremTest(seed, checks);
            test.play(10 + seed % (MOST_STEPS - 10));
            test.check();
            test.bringAll();
            test.check();
        }
        checks.end();
    }

    private void play(int steps) {
        for (int k = 0; k < steps; k++) {
            if (sent.size() < ORDERS && random.nextInt(5) == 0) {
                send();
            } else if (flying > 0) {
                int i = random.nextInt(flying);
                flying = random.nextInt(6) == 0 ? x.twice(i) : x.bring(i);
                checks.due(run + "a message in flight can be brought", true, flying >= 0);
            }
        }
    }

    private void send() {
        int[] order = {random.nextInt(2), random.nextInt(4), random.nextInt(6), random.nextInt(6),
            random.nextInt(150)};
        List<Integer> before = new ArrayList<>();
        for (int o = 0; o < sent.size(); o++) {
            if (sent.get(o)[0] == order[0] && x.answered(o)) {
                before.add(o);
            }
        }
        checks.due(run + "send", sent.size(), x.send(order[0], order[1], order[2], order[3], order[4]));
        sent.add(order);
        answeredBefore.add(before);
        flying = x.flying();
    }

    private void bringAll() {
        for (int k = 0; k < 6 * ORDERS && flying > 0; k++) {
            flying = x.bring(random.nextInt(flying));
        }
        checks.due(run + "flying at the end", 0, flying);
        checks.due(run + "count(3) at the end", sent.size(), x.count(3));
        checks.due(run + "count(4) at the end", sent.size(), x.count(4));
    }

    private void check() {
        checks.due(run + "agree()", true, x.agree());
        for (int o = 0; o < sent.size(); o++) {
            finalTimes[o] = askFinalTime(o);
        }
        for (int g = 0; g < n; g++) {
            checkTaken(g);
        }
        for (int o = 0; o < sent.size(); o++) {
            for (int earlier : answeredBefore.get(o)) {
                checks.due(run + o + " behind " + earlier + ", which was answered", true,
                        finalTimes[o] == GroupOrder.BAD || finalTimes[o] > finalTimes[earlier]);
            }
        }
        checkAnswersAndValues();
    }

    private void checkTaken(int group) {
        int before = x.taken(group, 0);
        for (int k = 1; k <= sent.size() && before != GroupOrder.BAD; k++) {
            int next = x.taken(group, k);
            checks.due(run + next + " taken behind " + before + " in group " + group, true,
                    next == GroupOrder.BAD || isBehind(next, before));
            before = next;
        }
    }

    private void checkAnswersAndValues() {
        Map<Integer, Integer> serial = new HashMap<>();
        Map<Integer, Integer> due = new HashMap<>();
        for (int key = 0; key < 16; key++) {
            serial.put(key, 100);
            due.put(key, 100);
        }
        for (int o : answeredInLine()) {
            int[] order = sent.get(o);
            int answer = Model.apply(order[1], order[2], order[3], order[4], serial);
            checks.due(run + "answer(" + o + ")", answer, x.answer(o));
            if (x.time(o, order[2] % n, 2) == 1) {
                due.put(order[2], serial.get(order[2]));
            }
            if (order[1] != 0 && x.time(o, order[3] % n, 2) == 1) {
                due.put(order[3], serial.get(order[3]));
            }
        }
        for (int key = 0; key < 16; key++) {
            checks.due(run + "value(" + key + ")", due.get(key), x.value(key));
        }
    }

    private List<Integer> answeredInLine() {
        List<Integer> line = new ArrayList<>();
        for (int o = 0; o < sent.size(); o++) {
            if (x.answered(o)) {
                line.add(o);
            }
        }
        line.sort((p, q) -> p.equals(q) ? 0 : isBehind(p, q) ? 1 : -1);
        return line;
    }

    private boolean isBehind(int later, int earlier) {
        int difference = finalTimes[later] - finalTimes[earlier];
        return difference > 0 || difference == 0 && later > earlier;
    }

    private int askFinalTime(int order) {
        int found = GroupOrder.BAD;
        for (int g = 0; g < n; g++) {
            int time = x.time(order, g, 1);
            checks.due(run + "one final time of " + order, true,
                    time == GroupOrder.BAD || found == GroupOrder.BAD || time == found);
            found = Math.max(found, time);
        }
        return found;
    }
}
