import java.util.Random;

/** Random runs of calls, each answer against the model's. */
public final class ModelTest {
    private static final int RUNS = 3000;
    private static final int CALLS = 512;
    private static final int[] EDGES = {
        Integer.MIN_VALUE, -2, -1, 4, 5, 16, 40, 41, 240, 1_000_001, Integer.MAX_VALUE};

    private final Checks checks;
    private final Random random;
    private final GroupOrder x;
    private final Model model;
    private final String run;

    private ModelTest(int seed, Checks checks) {
        this.checks = checks;
        random = new Random(seed);
        int groups = random.nextInt(8) - 1;
        x = new GroupOrder(groups);
        model = new Model(groups);
        run = "run " + seed + " of " + groups + " groups: ";
    }

    public static void main(String[] args) {
        Checks checks = new Checks();
        for (int seed = 0; seed < RUNS && checks.wrong() == 0; seed++) {
            new ModelTest(seed, checks).go();
        }
        checks.end();
    }

    /** Mostly below the bound, but now and then an edge or something far outside. */
    private int some(int bound) {
        int far = random.nextInt(200);
        return far < EDGES.length ? EDGES[far] : random.nextInt(bound + (far == 20 ? 1 : 0));
    }

    private void go() {
        // How much is sent before it is brought differs from run to run.
        int sends = 1 + random.nextInt(12);
        boolean downs = random.nextBoolean();
        // Few keys make orders meet in the same groups.
        int keys = random.nextBoolean() ? 16 : 4;
        for (int k = 0; k < CALLS && checks.wrong() == 0; k++) {
            int dice = random.nextInt(40);
            if (dice < sends) {
                send(keys);
            } else if (dice < 28) {
                move(dice, downs);
            } else {
                look(dice);
            }
        }
    }

    private void send(int keys) {
        int client = some(4);
        int kind = some(4);
        int a = some(keys);
        int b = random.nextInt(5) == 0 ? a : some(keys);
        int c = random.nextBoolean() ? some(150) : some(1_000_001);
        checks.due(run + "send(" + client + ", " + kind + ", " + a + ", " + b + ", " + c + ")",
                model.send(client, kind, a, b, c), x.send(client, kind, a, b, c));
    }

    private void move(int dice, boolean downs) {
        int i = some(Math.max(1, model.flying()));
        if (dice == 27 && downs) {
            int group = some(4);
            boolean on = random.nextInt(3) != 0;
            checks.due(run + "up(" + group + ", " + on + ")", model.up(group, on), x.up(group, on));
        } else if (dice > 23) {
            checks.due(run + "twice(" + i + ")", model.bring(i, true), x.twice(i));
        } else {
            checks.due(run + "bring(" + i + ")", model.bring(i, false), x.bring(i));
        }
    }

    private void look(int dice) {
        int order = some(Math.max(1, model.count(1)));
        int group = some(4);
        int small = some(5);
        switch (dice) {
            case 28:
                int i = some(Math.max(1, model.flying()));
                checks.due(run + "flight(" + i + ", " + small + ")", model.flight(i, small), x.flight(i, small));
                break;
            case 29:
                checks.due(run + "flying()", model.flying(), x.flying());
                break;
            case 30:
                int k = some(20);
                checks.due(run + "taken(" + group + ", " + k + ")", model.taken(group, k), x.taken(group, k));
                break;
            case 31:
                checks.due(run + "answer(" + order + ")", model.answer(order), x.answer(order));
                break;
            case 32:
                checks.due(run + "answered(" + order + ")", model.answered(order), x.answered(order));
                break;
            case 33:
                int what = some(3);
                checks.due(run + "time(" + order + ", " + group + ", " + what + ")",
                        model.time(order, group, what), x.time(order, group, what));
                break;
            case 34:
                int key = some(16);
                checks.due(run + "value(" + key + ")", model.value(key), x.value(key));
                break;
            case 35:
                checks.due(run + "clock(" + group + ")", model.clock(group), x.clock(group));
                break;
            case 36:
                checks.due(run + "seen(" + group + ")", model.seen(group), x.seen(group));
                break;
            case 37:
                checks.due(run + "agree()", true, x.agree());
                break;
            default:
                checks.due(run + "count(" + small + ")", model.count(small), x.count(small));
        }
    }
}
