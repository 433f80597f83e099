import java.util.ArrayList;
import java.util.Arrays;
import java.util.HashMap;
import java.util.List;
import java.util.Map;
import java.util.TreeSet;

/**
 * The document's terms, followed word by word and without regard to speed: groups hold maps and
 * lists, and behind each message "the first of" three things is done as long as there is one.
 */
final class Model {
    static final int BAD = -1;
    static final int OPEN = -2;

    private static final class Sent {
        int number, client, kind, a, b, c, clientTime;
        final TreeSet<Integer> groups = new TreeSet<>();
        Integer answer;
    }

    private static final class Letter {
        int kind, order, from, to, local;
        Map<Integer, Integer> values;
    }

    private static final class Keeper {
        int number, clock;
        boolean up = true;
        final Map<Integer, Integer> values = new HashMap<>();
        final TreeSet<Integer> started = new TreeSet<>();
        final Map<Integer, Map<Integer, Integer>> locals = new HashMap<>();
        final Map<Integer, Integer> finals = new HashMap<>();
        final List<Integer> taken = new ArrayList<>();
        final TreeSet<Integer> valuesSent = new TreeSet<>();
        final Map<Integer, Map<Integer, Map<Integer, Integer>>> others = new HashMap<>();
        final TreeSet<Integer> workedOut = new TreeSet<>();

        int timeOf(int order) {
            return finals.containsKey(order) ? finals.get(order) : locals.get(order).get(number);
        }
    }

    private final int n;
    private final List<Keeper> keepers = new ArrayList<>();
    private final List<Sent> orders = new ArrayList<>();
    private final List<Letter> flying = new ArrayList<>();
    private final int[] clientTimes = new int[4];
    private int brought = 0;

    Model(int groups) {
        n = groups < 2 ? 2 : groups > 4 ? 4 : groups;
        for (int g = 0; g < n; g++) {
            Keeper keeper = new Keeper();
            keeper.number = g;
            for (int key = g; key < 16; key += n) {
                keeper.values.put(key, 100);
            }
            keepers.add(keeper);
        }
    }

    int send(int client, int kind, int a, int b, int c) {
        boolean keys = a >= 0 && a <= 15 && b >= 0 && b <= 15;
        if (client < 0 || client > 3 || kind < 0 || kind > 3 || !keys || c < 0 || c > 1_000_000) {
            return BAD;
        }
        if (orders.size() == 40) {
            return BAD;
        }
        Sent sent = new Sent();
        sent.number = orders.size();
        sent.client = client;
        sent.kind = kind;
        sent.a = a;
        sent.b = b;
        sent.c = c;
        sent.clientTime = clientTimes[client];
        sent.groups.add(a % n);
        if (kind != 0) {
            sent.groups.add(b % n);
        }
        orders.add(sent);
        for (int g : sent.groups) {
            put(0, sent.number, BAD, g);
        }
        return sent.number;
    }

    private Letter put(int kind, int order, int from, int to) {
        Letter letter = new Letter();
        letter.kind = kind;
        letter.order = order;
        letter.from = from;
        letter.to = to;
        flying.add(letter);
        return letter;
    }

    int bring(int i, boolean stays) {
        if (i < 0 || i >= flying.size() || !keepers.get(flying.get(i).to).up) {
            return BAD;
        }
        Letter letter = stays ? flying.get(i) : flying.remove(i);
        brought++;
        Keeper keeper = keepers.get(letter.to);
        come(keeper, letter);
        boolean did = true;
        while (did) {
            did = makeOneFinal(keeper) || takeOne(keeper) || workOnOne(keeper);
        }
        return flying.size();
    }

    private void come(Keeper keeper, Letter letter) {
        int order = letter.order;
        if (letter.kind == 1) {
            keeper.locals.computeIfAbsent(order, o -> new HashMap<>()).putIfAbsent(letter.from, letter.local);
        } else if (letter.kind == 2) {
            keeper.others.computeIfAbsent(order, o -> new HashMap<>()).putIfAbsent(letter.from, letter.values);
        } else if (keeper.started.add(order)) {
            keeper.clock = 1 + Math.max(keeper.clock, orders.get(order).clientTime);
            keeper.locals.computeIfAbsent(order, o -> new HashMap<>()).put(keeper.number, keeper.clock);
            for (int g : orders.get(order).groups) {
                if (g != keeper.number) {
                    put(1, order, keeper.number, g).local = keeper.clock;
                }
            }
        }
    }

    private boolean makeOneFinal(Keeper keeper) {
        for (int order : keeper.started) {
            Map<Integer, Integer> locals = keeper.locals.get(order);
            if (!keeper.finals.containsKey(order) && locals.keySet().containsAll(orders.get(order).groups)) {
                int greatest = locals.values().stream().max(Integer::compare).get();
                keeper.finals.put(order, greatest);
                keeper.clock = Math.max(keeper.clock, greatest);
                return true;
            }
        }
        return false;
    }

    private boolean takeOne(Keeper keeper) {
        int least = BAD;
        for (int order : keeper.started) {
            boolean waits = !keeper.taken.contains(order);
            if (waits && (least == BAD || keeper.timeOf(order) < keeper.timeOf(least))) {
                least = order;
            }
        }
        if (least == BAD || !keeper.finals.containsKey(least)) {
            return false;
        }
        keeper.taken.add(least);
        return true;
    }

    private boolean workOnOne(Keeper keeper) {
        for (int order : keeper.taken) {
            if (!keeper.workedOut.contains(order)) {
                return workOn(keeper, orders.get(order));
            }
        }
        return false;
    }

    private boolean workOn(Keeper keeper, Sent sent) {
        boolean did = false;
        Map<Integer, Integer> known = new HashMap<>();
        for (int key : sent.kind == 0 ? new int[] {sent.a} : new int[] {sent.a, sent.b}) {
            if (key % n == keeper.number) {
                known.put(key, keeper.values.get(key));
            }
        }
        Map<Integer, Integer> own = new HashMap<>(known);
        TreeSet<Integer> others = new TreeSet<>(sent.groups);
        others.remove(keeper.number);
        if (keeper.valuesSent.add(sent.number)) {
            for (int g : others) {
                put(2, sent.number, keeper.number, g).values = own;
            }
            did = true;
        }
        Map<Integer, Map<Integer, Integer>> came = keeper.others.getOrDefault(sent.number, Map.of());
        if (!came.keySet().containsAll(others)) {
            return did;
        }
        came.values().forEach(known::putAll);
        int answer = apply(sent, known);
        for (int key : own.keySet()) {
            keeper.values.put(key, known.get(key));
        }
        keeper.workedOut.add(sent.number);
        if (sent.answer == null) {
            sent.answer = answer;
            int finalTime = keeper.finals.get(sent.number);
            clientTimes[sent.client] = Math.max(clientTimes[sent.client], finalTime);
        }
        return true;
    }

    private static int apply(Sent sent, Map<Integer, Integer> values) {
        return apply(sent.kind, sent.a, sent.b, sent.c, values);
    }

    /** Does one order on these values, and tells its answer. */
    static int apply(int kind, int a, int b, int c, Map<Integer, Integer> values) {
        int ofA = values.get(a);
        switch (kind) {
            case 0:
                values.put(a, ofA + c);
                return ofA + c;
            case 1:
                if (ofA < c) {
                    return 0;
                }
                values.put(a, values.get(a) - c);
                values.put(b, values.get(b) + c);
                return 1;
            case 2:
                return ofA + values.get(b);
            default:
                values.put(a, values.get(b));
                values.put(b, ofA);
                return values.get(a);
        }
    }

    boolean up(int group, boolean on) {
        if (group < 0 || group >= n) {
            return false;
        }
        keepers.get(group).up = on;
        return true;
    }

    int flight(int i, int what) {
        if (i < 0 || i >= flying.size() || what < 0 || what > 4) {
            return BAD;
        }
        Letter letter = flying.get(i);
        int local = letter.kind == 1 ? letter.local : BAD;
        return new int[] {letter.kind, letter.order, letter.from, letter.to, local}[what];
    }

    int flying() {
        return flying.size();
    }

    int taken(int group, int k) {
        if (group < 0 || group >= n || k < 0 || k >= keepers.get(group).taken.size()) {
            return BAD;
        }
        return keepers.get(group).taken.get(k);
    }

    int answer(int order) {
        return answered(order) ? orders.get(order).answer : OPEN;
    }

    boolean answered(int order) {
        return order >= 0 && order < orders.size() && orders.get(order).answer != null;
    }

    int time(int order, int group, int what) {
        if (order < 0 || order >= orders.size() || group < 0 || group >= n) {
            return BAD;
        }
        Keeper keeper = keepers.get(group);
        if (what == 0) {
            return keeper.started.contains(order) ? keeper.locals.get(order).get(group) : BAD;
        }
        if (what == 1) {
            return keeper.finals.getOrDefault(order, BAD);
        }
        return what != 2 ? BAD : keeper.workedOut.contains(order) ? 1 : 0;
    }

    int value(int key) {
        return key < 0 || key > 15 ? BAD : keepers.get(key % n).values.get(key);
    }

    int clock(int group) {
        return group < 0 || group >= n ? BAD : keepers.get(group).clock;
    }

    int seen(int client) {
        return client < 0 || client > 3 ? BAD : clientTimes[client];
    }

    int count(int what) {
        if (what < 0 || what > 4) {
            return BAD;
        }
        long answered = orders.stream().filter(sent -> sent.answer != null).count();
        long workedOut = orders.stream().filter(sent -> sent.groups.stream()
                .allMatch(g -> keepers.get(g).workedOut.contains(sent.number))).count();
        return new int[] {n, orders.size(), brought, (int) answered, (int) workedOut}[what];
    }

    /** All that later answers hang on, but how many messages were brought. */
    String tell() {
        StringBuilder told = new StringBuilder(Arrays.toString(clientTimes));
        for (Sent sent : orders) {
            told.append(sent.clientTime).append('/').append(sent.answer).append(';');
        }
        for (Letter letter : flying) {
            told.append(letter.kind).append(letter.order).append(letter.from).append(letter.to)
                    .append(letter.local).append(letter.values);
        }
        for (Keeper keeper : keepers) {
            told.append(keeper.clock).append(keeper.up).append(keeper.values).append(keeper.started)
                    .append(keeper.locals).append(keeper.finals).append(keeper.taken)
                    .append(keeper.valuesSent).append(keeper.others).append(keeper.workedOut);
        }
        return told.toString();
    }
}
