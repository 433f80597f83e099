import java.io.IOException;
import java.lang.reflect.Method;
import java.lang.reflect.Modifier;
import java.nio.file.Files;
import java.nio.file.Path;
import java.util.stream.Stream;

/** README.md names each call, each test and the way to run them, and its answers are the class's. */
public final class ReadmeTest {
    private static final int BAD = GroupOrder.BAD, OPEN = GroupOrder.OPEN;

    private final Checks checks = new Checks();
    private final String readme;

    private ReadmeTest(String readme) {
        this.readme = readme;
    }

    public static void main(String[] args) throws IOException {
        ReadmeTest test = new ReadmeTest(Files.readString(Path.of("README.md")));
        test.namesEachCall();
        test.namesEachTest();
        test.example();
        test.kinds();
        test.refusedCallsChangeNothing();
        test.whereTheDocumentLeavesRoom();
        test.checks.end();
    }

    private void due(String call, long want, long got) {
        checks.due(call, want, got);
    }

    private void due(String call, boolean want, boolean got) {
        checks.due(call, want, got);
    }

    private void tells(String text) {
        due("README.md tells " + text, true, readme.contains(text));
    }

    private void namesEachCall() {
        for (Method method : GroupOrder.class.getDeclaredMethods()) {
            if (Modifier.isPublic(method.getModifiers())) {
                tells("| `" + method.getName() + "(");
            }
        }
        tells("| `new GroupOrder(groups)` |");
        tells("`GroupOrder.BAD` is " + BAD + " and `GroupOrder.OPEN` is " + OPEN + ".");
    }

    private void namesEachTest() throws IOException {
        tells("\n.ci/run\n");
        try (Stream<Path> files = Files.list(Path.of("src/test/java"))) {
            files.forEach(file -> tells("`" + file.getFileName().toString().replace(".java", "") + "`"));
        }
    }

    private void example() {
        checks.about("the example");
        tells("GroupOrder x = new GroupOrder(2);");
        tells("int order = x.send(0, 1, 0, 1, 30);");
        GroupOrder x = new GroupOrder(2);
        int order = x.send(0, 1, 0, 1, 30);
        while (x.flying() > 0) {
            x.bring(0);
        }
        result("x.answer(order);", x.answer(order));
        result("x.value(0);", x.value(0));
        result("x.value(1);", x.value(1));
        due("agree()", true, x.agree());
        due("x.agree(); is told to be true", true, readme.matches("(?s).*\nx\\.agree\\(\\); *// true\n.*"));
    }

    /** The line of the example that makes this call tells what it answered. */
    private void result(String call, int answered) {
        int line = readme.indexOf("\n" + call);
        String behind = line < 0 ? "" : readme.substring(line + 1 + call.length()).strip();
        due(call + " is told to be " + answered, true, behind.matches("(?s)// " + answered + "\\b.*"));
    }

    private void kinds() {
        checks.about("the kinds");
        int[][] sent = {{0, 0, 1, 30}, {1, 0, 1, 100}, {1, 0, 1, 101}, {1, 0, 0, 100}, {2, 0, 1, 0}, {2, 0, 0, 0}};
        int[] answers = {130, 1, 0, 1, 200, 200};
        int[] ofA = {130, 0, 100, 100, 100, 100};
        int[] ofB = {100, 200, 100, 100, 100, 100};
        for (int k = 0; k < sent.length; k++) {
            GroupOrder x = new GroupOrder(3);
            due("send", 0, x.send(0, sent[k][0], sent[k][1], sent[k][2], sent[k][3]));
            bringAll(x);
            due("answer " + k, answers[k], x.answer(0));
            due("value(0) of " + k, ofA[k], x.value(0));
            due("value(1) of " + k, ofB[k], x.value(1));
        }
        GroupOrder x = new GroupOrder(3);
        x.send(0, 0, 1, 1, 30);
        bringAll(x);
        x.send(0, 3, 0, 1, 0);
        bringAll(x);
        due("answer of kind 3", 130, x.answer(1));
        due("value(0)", 130, x.value(0));
        due("value(1)", 100, x.value(1));
    }

    private static void bringAll(GroupOrder x) {
        int left = x.flying();
        for (int k = 0; k < 300 && left > 0; k++) {
            left = x.bring(0);
        }
    }

    private void refusedCallsChangeNothing() {
        checks.about("calls that are refused");
        Pair pair = new Pair(2, checks, "refused");
        pair.send(0, 1, 0, 1, 30);
        pair.bring(0);
        due("up", true, pair.up(0, false));
        due("send", BAD, pair.send(4, 0, 0, 0, 0));
        due("bring", BAD, pair.bring(2));
        due("twice", BAD, pair.twice(-1));
        due("up of none such", false, pair.up(2, true));
        due("flight", BAD, pair.flight(2, 0));
        due("taken", BAD, pair.taken(0, 0));
        due("answer", OPEN, pair.answer(1));
        due("answered", false, pair.answered(1));
        due("time", BAD, pair.time(1, 0, 0));
        due("value", BAD, pair.value(16));
        due("clock", BAD, pair.clock(2));
        due("seen", BAD, pair.seen(4));
        due("count", BAD, pair.count(5));
        pair.lookAround();
        pair.lookCloser();
    }

    private void whereTheDocumentLeavesRoom() {
        checks.about("where the document leaves room");
        GroupOrder x = new GroupOrder(3);
        x.send(0, 2, 2, 0, 0);
        due("the first START is that of the lesser group", 0, x.flight(0, 3));
        due("the second START", 2, x.flight(1, 3));
        for (int group = 0; group < 3; group++) {
            due("time(0, " + group + ", 2) from the sending on", 0, x.time(0, group, 2));
        }
        due("twice(0)", 3, x.twice(0));
        due("bring(3)", BAD, x.bring(3));
        due("count(2)", 1, x.count(2));
        for (int k = 0; k < 6; k++) {
            due("agree()", true, x.agree());
            x.bring(0);
        }
        due("count(2)", 7, x.count(2));
        due("time(0, 0, 2)", 1, x.time(0, 0, 2));
        due("time(0, 1, 0)", BAD, x.time(0, 1, 0));
        due("time(0, 1, 1)", BAD, x.time(0, 1, 1));
        due("time(0, 1, 2)", 0, x.time(0, 1, 2));
        due("kind 0 with b no key", BAD, x.send(0, 0, 0, 16, 0));
    }
}
