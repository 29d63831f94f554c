import java.util.List;

/**
 * "the power may fail before any write, and all goes on from what was written": one piece of work,
 * with the power failing before each of its writes in turn, and once more soon after the recovery.
 */
public final class FailuresTest {
    /** A call that fails is made again; "step until 0" makes steps until one answers 0, the plan's end. */
    private static final List<String> WORK = """
        put 0 10
        put 1 11
        put 2 12
        put 3 13
        put 4 14
        put 5 15
        put 8 18
        put -1 19
        remove 3
        join 2 1
        step until 2
        put 1 21
        remove 1
        put 1 31
        step until 3
        put 1 41
        step until 4
        remove 1
        put 2 22
        step until 2
        remove 2
        step until 3
        put 2 32
        remove 2
        step until 4
        put 2 42
        remove 4
        put 7 17
        step until 0
        leave 0
        put 0 20
        step until 2
        remove -1
        put 9 19
        step until 3
        step until 2
        put 0 30
        step until 0
        join 0 3
        step until 3
        leave 1
        step until 0
        leave 1
        step until 0
        """.strip().lines().toList();
    private static final int MOST_STEPS = 60;
    private static final int LAST_KEY = 9;

    private static final Events EVENTS = new Events();

    private final Pair pair = new Pair(2, 1);
    private final int second;
    private boolean failedOnce = false;

    private FailuresTest(int second) {
        this.second = second;
    }

    public static void main(String[] args) {
        int writes = new FailuresTest(-1).work(-1);
        for (int first = 0; first < writes; first++) {
            for (int second = -1; second < 12; second++) {
                new FailuresTest(second).work(first);
            }
        }
        List<String> missing = EVENTS.rarerThan(5, Events.ofAllWrites());
        missing.forEach(event -> System.out.println("too seldom: " + event));
        System.out.println("FailuresTest: " + Pair.callsAsked() + " calls, the power failing before each of "
            + writes + " writes, " + Pair.answersNotAsDue() + " answers not as due");
        if (Pair.answersNotAsDue() != 0 || !missing.isEmpty()) {
            System.exit(1);
        }
    }

    private int work(int first) {
        ask("fail " + first);
        for (String line : WORK) {
            if (!pair.agrees()) {
                break;
            }
            int until = line.indexOf(" until ");
            if (until < 0) {
                askUntilDone(line);
            } else {
                stepUntil(line.substring(until + " until ".length()));
            }
        }
        look();
        return pair.model.written(false);
    }

    // A plan may have ended, or its last key be GONE, before the answer that is waited for.
    private void stepUntil(String answer) {
        for (int i = 0; i < MOST_STEPS && pair.model.count(1) != -1; i++) {
            boolean isLast = pair.model.keyAtStep() == null;
            if (isLast && !answer.equals("0") || askUntilDone("step").equals(answer)) {
                return;
            }
        }
    }

    private String askUntilDone(String call) {
        for (int failures = 0; failures < 2; failures++) {
            String answer = ask(call);
            if (!answer.equals("-9")) {
                return answer;
            }
            recover();
        }
        return ask(call);
    }

    private void recover() {
        lookAtStores();
        ask("recover");
        look();
        if (!failedOnce) {
            failedOnce = true;
            ask("fail " + second);
        }
    }

    private void look() {
        for (int what = 0; what <= 2; what++) {
            ask("count " + what);
        }
        for (int key = -1; key <= LAST_KEY; key++) {
            ask("get " + key);
            ask("state " + key);
            ask("home " + key);
        }
        lookAtStores();
    }

    private void lookAtStores() {
        ask("off");
        ask("written true");
        ask("written false");
        for (int node = 0; node <= 2; node++) {
            int size = Integer.parseInt(ask("size " + node));
            for (int i = 0; i < size; i++) {
                ask("key " + node + " " + i);
            }
        }
    }

    private String ask(String call) {
        return EVENTS.ask(pair, call.split(" "));
    }
}
