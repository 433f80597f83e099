import java.util.Arrays;

/**
 * Groups that keep parts of one store and agree without a leader in which order they take what is
 * sent to several of them. The document (../shared/DOC.md) says what each call answers.
 */
public final class GroupOrder {
    public static final int BAD = -1, OPEN = -2;

    private static final int FEWEST_GROUPS = 2, MOST_GROUPS = 4;
    private static final int CLIENTS = 4, KEYS = 16, MOST_ORDERS = 40;
    private static final int FIRST_VALUE = 100, MOST_AMOUNT = 1000000;
    private static final int ADD = 0, MOVE = 1, SUM = 2, SWAP = 3;
    private static final int START = 0, LOCAL = 1, VALUES = 2;
    // An order has two groups at most, and each of them gets each kind of message once at most:
    // bringing one twice leaves it in flight, but puts none.
    private static final int MOST_MESSAGES = MOST_ORDERS * 2 * 3;

    private final Group[] groups;
    // A key belongs to one group alone, so one row holds what all groups keep.
    private final int[] values = new int[KEYS];
    private final int[] clientTimes = new int[CLIENTS];
    private final Order[] orders = new Order[MOST_ORDERS];
    private final Flights flights = new Flights();
    private int orderCount;
    private int broughtCount;
    // Rows of agree(), made once: the values behind all answered orders, and of these behind
    // the ones that the key's own group has worked out.
    private final int[] serialValues = new int[KEYS];
    private final int[] dueValues = new int[KEYS];

    public GroupOrder(int groups) {
        int n = Math.max(FEWEST_GROUPS, Math.min(MOST_GROUPS, groups));
        this.groups = new Group[n];
        for (int g = 0; g < n; g++) {
            this.groups[g] = new Group(g);
        }
        Arrays.fill(values, FIRST_VALUE);
    }

    public int send(int client, int kind, int a, int b, int c) {
        if (orderCount >= MOST_ORDERS || !isOrder(client, kind, a, b, c)) {
            return BAD;
        }
        Order order = new Order(orderCount, client, kind, a, b, c);
        order.clientTime = clientTimes[client];
        order.answeredBefore = answeredOrdersOf(client);
        orders[orderCount] = order;
        orderCount++;
        putStarts(order);
        return order.number;
    }

    public int bring(int i) {
        return deliver(i, false);
    }

    public int twice(int i) {
        return deliver(i, true);
    }

    public boolean up(int group, boolean on) {
        if (!isGroup(group)) {
            return false;
        }
        groups[group].isUp = on;
        return true;
    }

    public int flight(int i, int what) {
        if (!flights.has(i)) {
            return BAD;
        }
        Message message = flights.row[i];
        switch (what) {
            case 0:
                return message.kind;
            case 1:
                return message.to.order.number;
            case 2:
                return message.from;
            case 3:
                return message.to.group;
            case 4:
                return message.kind == LOCAL ? message.content : BAD;
            default:
                return BAD;
        }
    }

    public int flying() {
        return flights.size;
    }

    public int taken(int group, int k) {
        if (!isGroup(group) || k < 0 || k >= groups[group].takenCount) {
            return BAD;
        }
        return groups[group].takenParts[k].order.number;
    }

    public int answer(int order) {
        return answered(order) ? orders[order].result : OPEN;
    }

    public boolean answered(int order) {
        return hasOrder(order) && orders[order].isAnswered;
    }

    public int time(int order, int group, int what) {
        if (!hasOrder(order) || !isGroup(group)) {
            return BAD;
        }
        // A group that is none of the order's has no time of it, but has not worked it out either:
        // that question always has an answer.
        Part part = groups[group].parts[order];
        switch (what) {
            case 0:
                return part != null ? part.localTime : BAD;
            case 1:
                return part != null ? part.finalTime : BAD;
            case 2:
                return part != null && part.isWorkedOut ? 1 : 0;
            default:
                return BAD;
        }
    }

    public int value(int key) {
        return isKey(key) ? values[key] : BAD;
    }

    public int clock(int group) {
        return isGroup(group) ? groups[group].clockTime : BAD;
    }

    public int seen(int client) {
        return isClient(client) ? clientTimes[client] : BAD;
    }

    public boolean agree() {
        return groupsTookInOrder() && clientsWereFollowed() && replayGivesTheSame();
    }

    public int count(int what) {
        switch (what) {
            case 0:
                return groups.length;
            case 1:
                return orderCount;
            case 2:
                return broughtCount;
            case 3:
                return countAnswered();
            case 4:
                return countWorkedOutByAll();
            default:
                return BAD;
        }
    }

    private boolean isGroup(int group) {
        return group >= 0 && group < groups.length;
    }

    private boolean hasOrder(int order) {
        return order >= 0 && order < orderCount;
    }

    private static boolean isClient(int client) {
        return client >= 0 && client < CLIENTS;
    }

    private static boolean isKey(int key) {
        return key >= 0 && key < KEYS;
    }

    private static boolean isOrder(int client, int kind, int a, int b, int c) {
        return isClient(client) && kind >= ADD && kind <= SWAP && isKey(a) && isKey(b)
                && c >= 0 && c <= MOST_AMOUNT;
    }

    private Group keeperOf(int key) {
        return groups[key % groups.length];
    }

    private long answeredOrdersOf(int client) {
        long answered = 0;
        for (int o = 0; o < orderCount; o++) {
            if (orders[o].client == client && orders[o].isAnswered) {
                answered |= 1L << o;
            }
        }
        return answered;
    }

    private void putStarts(Order order) {
        Group keeperOfA = keeperOf(order.a);
        Group keeperOfB = keeperOf(order.b);
        boolean inTurn = keeperOfA.number <= keeperOfB.number;
        Part first = (inTurn ? keeperOfA : keeperOfB).partFor(order);
        flights.put(new Message(START, BAD, first, 0));
        if (keeperOfA == keeperOfB) {
            return;
        }
        Part second = (inTurn ? keeperOfB : keeperOfA).partFor(order);
        flights.put(new Message(START, BAD, second, 0));
        first.other = second;
        second.other = first;
    }

    private int deliver(int i, boolean stays) {
        if (!flights.has(i)) {
            return BAD;
        }
        Message message = flights.row[i];
        Group group = groups[message.to.group];
        if (!group.isUp) {
            return BAD;
        }
        if (!stays) {
            flights.drop(i);
        }
        broughtCount++;
        receive(group, message);
        // Taking makes no order final, and working out lets none be taken: so one pass over
        // each of the three is all that there is to do.
        group.makeFinal();
        group.takeAll();
        workOutAll(group);
        return flights.size;
    }

    private void receive(Group group, Message message) {
        Part part = message.to;
        if (message.kind == LOCAL) {
            part.otherLocalTime = message.content;
        } else if (message.kind == VALUES) {
            part.otherValue = message.content;
            part.hasOtherValue = true;
        } else if (part.localTime == BAD) {
            group.start(part);
            if (part.other != null) {
                flights.put(new Message(LOCAL, part.group, part.other, part.localTime));
            }
        }
    }

    private void workOutAll(Group group) {
        for (int k = group.workedOutCount; k < group.takenCount; k++) {
            Part part = group.takenParts[k];
            putValues(part);
            if (part.other != null && !part.hasOtherValue) {
                return;
            }
            workOut(part);
            group.workedOutCount = k + 1;
        }
    }

    private void putValues(Part part) {
        if (part.other == null || part.wasValueSent) {
            return;
        }
        // Of an order of two groups, each of them keeps just one key.
        Order order = part.order;
        int ownKey = keeperOf(order.a).number == part.group ? order.a : order.b;
        flights.put(new Message(VALUES, part.group, part.other, values[ownKey]));
        part.wasValueSent = true;
    }

    private void workOut(Part part) {
        Order order = part.order;
        boolean keepsA = keeperOf(order.a).number == part.group;
        boolean keepsB = keeperOf(order.b).number == part.group;
        int ofA = keepsA ? values[order.a] : part.otherValue;
        int ofB = keepsB ? values[order.b] : part.otherValue;
        // b before a: where both are one key, what a has behind the order counts.
        if (keepsB) {
            values[order.b] = order.behindB(ofA, ofB);
        }
        if (keepsA) {
            values[order.a] = order.behindA(ofA, ofB);
        }
        part.isWorkedOut = true;
        if (!order.isAnswered) {
            order.isAnswered = true;
            order.result = order.reply(ofA, ofB);
            clientTimes[order.client] = Math.max(clientTimes[order.client], part.finalTime);
        }
    }

    private int countAnswered() {
        int answered = 0;
        for (int o = 0; o < orderCount; o++) {
            if (orders[o].isAnswered) {
                answered++;
            }
        }
        return answered;
    }

    private int countWorkedOutByAll() {
        int workedOut = 0;
        for (int o = 0; o < orderCount; o++) {
            if (isWorkedOutAt(orders[o], orders[o].a) && isWorkedOutAt(orders[o], orders[o].b)) {
                workedOut++;
            }
        }
        return workedOut;
    }

    private boolean isWorkedOutAt(Order order, int key) {
        Part part = keeperOf(key).parts[order.number];
        return part != null && part.isWorkedOut;
    }

    private boolean groupsTookInOrder() {
        for (int g = 0; g < groups.length; g++) {
            Part[] row = groups[g].takenParts;
            for (int k = 1; k < groups[g].takenCount; k++) {
                if (!isBehind(row[k].order, row[k - 1].order)) {
                    return false;
                }
            }
        }
        return true;
    }

    private boolean clientsWereFollowed() {
        for (int o = 0; o < orderCount; o++) {
            for (int earlier = 0; earlier < o; earlier++) {
                boolean follows = (orders[o].answeredBefore >> earlier & 1L) == 1L;
                if (follows && finalTimeOf(orders[o]) != BAD && !isBehind(orders[o], orders[earlier])) {
                    return false;
                }
            }
        }
        return true;
    }

    private boolean replayGivesTheSame() {
        Arrays.fill(serialValues, FIRST_VALUE);
        Arrays.fill(dueValues, FIRST_VALUE);
        Order order = nextAnswered(null);
        for (int k = 0; k < orderCount && order != null; k++) {
            if (!replayAnswersTheSame(order)) {
                return false;
            }
            order = nextAnswered(order);
        }
        for (int key = 0; key < KEYS; key++) {
            if (values[key] != dueValues[key]) {
                return false;
            }
        }
        return true;
    }

    private boolean replayAnswersTheSame(Order order) {
        int ofA = serialValues[order.a];
        int ofB = serialValues[order.b];
        serialValues[order.b] = order.behindB(ofA, ofB);
        serialValues[order.a] = order.behindA(ofA, ofB);
        // One group may have worked the order out while the other one still waits for values.
        if (isWorkedOutAt(order, order.a)) {
            dueValues[order.a] = serialValues[order.a];
        }
        if (isWorkedOutAt(order, order.b)) {
            dueValues[order.b] = serialValues[order.b];
        }
        return order.result == order.reply(ofA, ofB);
    }

    /** The first answered order behind this one, or the first of all behind null. */
    private Order nextAnswered(Order last) {
        Order next = null;
        for (int o = 0; o < orderCount; o++) {
            Order order = orders[o];
            boolean comes = order.isAnswered && (last == null || isBehind(order, last));
            if (comes && (next == null || isBehind(next, order))) {
                next = order;
            }
        }
        return next;
    }

    private boolean isBehind(Order later, Order earlier) {
        int difference = Integer.compare(finalTimeOf(later), finalTimeOf(earlier));
        return difference > 0 || difference == 0 && later.number > earlier.number;
    }

    /** The final time that one of its groups has, or BAD while none has it. */
    private int finalTimeOf(Order order) {
        Part partOfA = keeperOf(order.a).parts[order.number];
        Part partOfB = keeperOf(order.b).parts[order.number];
        if (partOfA == null || partOfB == null) {
            return BAD;
        }
        return partOfA.finalTime != BAD ? partOfA.finalTime : partOfB.finalTime;
    }

    private static final class Order {
        final int number, client, kind, a, b, c;
        int clientTime;
        long answeredBefore;
        boolean isAnswered;
        int result;

        Order(int number, int client, int kind, int a, int b, int c) {
            this.number = number;
            this.client = client;
            this.kind = kind;
            this.a = a;
            // b counts for nothing there: so a's group is the only one.
            this.b = kind == ADD ? a : b;
            this.c = c;
        }

        boolean isMoved(int ofA) {
            return kind == MOVE && a != b && ofA >= c;
        }

        int behindA(int ofA, int ofB) {
            if (kind == ADD) {
                return ofA + c;
            }
            if (kind == SWAP) {
                return ofB;
            }
            return isMoved(ofA) ? ofA - c : ofA;
        }

        int behindB(int ofA, int ofB) {
            if (kind == SWAP) {
                return ofA;
            }
            return isMoved(ofA) ? ofB + c : ofB;
        }

        int reply(int ofA, int ofB) {
            if (kind == MOVE) {
                return ofA >= c ? 1 : 0;
            }
            return kind == SUM ? ofA + ofB : behindA(ofA, ofB);
        }
    }

    /** What one group has of one order. Times are BAD while they are not there. */
    private static final class Part {
        final Order order;
        final int group;
        Part other;
        int localTime = BAD;
        int otherLocalTime = BAD;
        int finalTime = BAD;
        boolean isTaken;
        boolean wasValueSent;
        boolean hasOtherValue;
        int otherValue;
        boolean isWorkedOut;

        Part(Order order, int group) {
            this.order = order;
            this.group = group;
        }

        boolean hasAllLocalTimes() {
            return localTime != BAD && (other == null || otherLocalTime != BAD);
        }

        boolean waits() {
            return localTime != BAD && !isTaken;
        }

        boolean isEarlierThan(Part that) {
            int difference = Integer.compare(leastTime(), that.leastTime());
            return difference < 0 || difference == 0 && order.number < that.order.number;
        }

        private int leastTime() {
            return finalTime != BAD ? finalTime : localTime;
        }
    }

    private static final class Group {
        final int number;
        boolean isUp = true;
        int clockTime;
        // By the order's number; null where the order is none of this group's.
        final Part[] parts = new Part[MOST_ORDERS];
        // In the order of taking; the first workedOutCount of them are worked out.
        final Part[] takenParts = new Part[MOST_ORDERS];
        int takenCount;
        int workedOutCount;

        Group(int number) {
            this.number = number;
        }

        Part partFor(Order order) {
            Part part = new Part(order, number);
            parts[order.number] = part;
            return part;
        }

        void start(Part part) {
            clockTime = Math.max(clockTime, part.order.clientTime) + 1;
            part.localTime = clockTime;
        }

        void makeFinal() {
            for (int o = 0; o < MOST_ORDERS; o++) {
                Part part = parts[o];
                if (part != null && part.finalTime == BAD && part.hasAllLocalTimes()) {
                    part.finalTime = Math.max(part.localTime, part.otherLocalTime);
                    clockTime = Math.max(clockTime, part.finalTime);
                }
            }
        }

        void takeAll() {
            for (int k = takenCount; k < MOST_ORDERS; k++) {
                Part part = earliestWaiting();
                if (part == null || part.finalTime == BAD) {
                    return;
                }
                part.isTaken = true;
                takenParts[k] = part;
                takenCount = k + 1;
            }
        }

        private Part earliestWaiting() {
            Part earliest = null;
            for (int o = 0; o < MOST_ORDERS; o++) {
                Part part = parts[o];
                boolean waits = part != null && part.waits();
                if (waits && (earliest == null || part.isEarlierThan(earliest))) {
                    earliest = part;
                }
            }
            return earliest;
        }
    }

    private static final class Message {
        final int kind;
        // BAD for a START: it comes from a client.
        final int from;
        final Part to;
        final int content;

        Message(int kind, int from, Part to, int content) {
            this.kind = kind;
            this.from = from;
            this.to = to;
            this.content = content;
        }
    }

    /** The messages in flight, in the order of putting. */
    private static final class Flights {
        final Message[] row = new Message[MOST_MESSAGES];
        int size;

        boolean has(int i) {
            return i >= 0 && i < size;
        }

        void put(Message message) {
            if (size < MOST_MESSAGES) {
                row[size] = message;
                size++;
            }
        }

        void drop(int i) {
            for (int k = i + 1; k < size; k++) {
                row[k - 1] = row[k];
            }
            size--;
            row[size] = null;
        }
    }
}
