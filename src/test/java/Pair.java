/** An object and its model: each call goes to both, and the object's answer is due to be the model's. */
final class Pair {
    static final int MOST_CALLS = 512;

    private final Checks checks;
    private final String told;
    private final GroupOrder x;
    private final Model model;
    private int calls = 0;

    Pair(int groups, Checks checks, String told) {
        this.checks = checks;
        this.told = told + ", call ";
        x = new GroupOrder(groups);
        model = new Model(groups);
    }

    /** All that later answers hang on, as the model has it. */
    String tell() {
        return model.tell();
    }

    int callsLeft() {
        return MOST_CALLS - calls;
    }

    private int due(String call, int want, int got) {
        calls++;
        checks.due(told + calls + ": " + call, want, got);
        if (calls > MOST_CALLS) {
            checks.due(told + call + ": calls beyond the last", 0, calls - MOST_CALLS);
        }
        return got;
    }

    private boolean due(String call, boolean want, boolean got) {
        return due(call, want ? 1 : 0, got ? 1 : 0) == 1;
    }

    int send(int client, int kind, int a, int b, int c) {
        return due("send(" + client + ", " + kind + ", " + a + ", " + b + ", " + c + ")",
                model.send(client, kind, a, b, c), x.send(client, kind, a, b, c));
    }

    int bring(int i) {
        return due("bring(" + i + ")", model.bring(i, false), x.bring(i));
    }

    int twice(int i) {
        return due("twice(" + i + ")", model.bring(i, true), x.twice(i));
    }

    boolean up(int group, boolean on) {
        return due("up(" + group + ", " + on + ")", model.up(group, on), x.up(group, on));
    }

    int flight(int i, int what) {
        return due("flight(" + i + ", " + what + ")", model.flight(i, what), x.flight(i, what));
    }

    int flying() {
        return due("flying()", model.flying(), x.flying());
    }

    int taken(int group, int k) {
        return due("taken(" + group + ", " + k + ")", model.taken(group, k), x.taken(group, k));
    }

    int answer(int order) {
        return due("answer(" + order + ")", model.answer(order), x.answer(order));
    }

    boolean answered(int order) {
        return due("answered(" + order + ")", model.answered(order), x.answered(order));
    }

    int time(int order, int group, int what) {
        return due("time(" + order + ", " + group + ", " + what + ")",
                model.time(order, group, what), x.time(order, group, what));
    }

    int value(int key) {
        return due("value(" + key + ")", model.value(key), x.value(key));
    }

    int clock(int group) {
        return due("clock(" + group + ")", model.clock(group), x.clock(group));
    }

    int seen(int client) {
        return due("seen(" + client + ")", model.seen(client), x.seen(client));
    }

    boolean agree() {
        return due("agree()", true, x.agree());
    }

    int count(int what) {
        return due("count(" + what + ")", model.count(what), x.count(what));
    }

    /** What tells the whole object in few calls: 37 of them, if there are four groups. */
    void lookAround() {
        flying();
        agree();
        for (int what = 0; what <= 4; what++) {
            count(what);
        }
        for (int group = 0; group < model.count(0); group++) {
            clock(group);
            taken(group, 0);
        }
        for (int client = 0; client < 4; client++) {
            seen(client);
        }
        for (int key = 0; key < 16; key++) {
            value(key);
        }
        flight(0, 1);
        flight(model.flying() - 1, 1);
    }

    /** Each message in flight, and all that each order has in each group. */
    void lookCloser() {
        for (int i = 0; i < model.flying(); i++) {
            for (int what = 0; what <= 4; what++) {
                flight(i, what);
            }
        }
        for (int order = 0; order < model.count(1); order++) {
            answer(order);
            answered(order);
            for (int group = 0; group < model.count(0); group++) {
                taken(group, order);
                for (int what = 0; what <= 2; what++) {
                    time(order, group, what);
                }
            }
        }
    }

    /** Brings what is in flight, the first of it each time, until none is left. */
    void bringAll() {
        int left = model.flying();
        for (int k = 0; k < MOST_CALLS && left > 0; k++) {
            left = bring(0);
        }
    }
}
