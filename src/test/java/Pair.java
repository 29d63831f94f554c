import java.util.Arrays;

/** A ShardRing and a Model that are asked the same calls, at most as many as an object is used for. */
final class Pair {
    private static final int CALLS_OF_AN_OBJECT = 512;
    private static final Calls REAL = new Calls(ShardRing.class);
    private static final Calls MODEL = new Calls(Model.class);
    private static int asked = 0;
    private static int wrong = 0;

    /** For looking where things stand without using up a call. */
    final Model model;

    private final ShardRing real;
    private final StringBuilder told = new StringBuilder();
    private int made = 0;
    private boolean agrees = true;

    Pair(int nodes, int points) {
        real = new ShardRing(nodes, points);
        model = new Model(nodes, points);
        told.append("new ").append(nodes).append(' ').append(points);
    }

    static int callsAsked() {
        return asked;
    }

    static int answersNotAsDue() {
        return wrong;
    }

    /** What ShardRing answers; the first answer that is not the model's is told with the whole run. */
    String ask(String... call) {
        if (callsLeft() == 0) {
            throw new IllegalStateException("more calls than an object is used for");
        }
        asked++;
        made++;
        String[] arguments = Arrays.copyOfRange(call, 1, call.length);
        String due = MODEL.answer(model, call[0], arguments);
        String got = REAL.answer(real, call[0], arguments);
        told.append('\n').append(String.join(" ", call)).append(" = ").append(due);
        if (!got.equals(due)) {
            tell("the last call answered " + got);
        }
        return got;
    }

    /** For what must hold beside the model's answers. */
    void require(String what, boolean holds) {
        if (!holds) {
            tell("does not hold: " + what);
        }
    }

    int callsLeft() {
        return CALLS_OF_AN_OBJECT - made;
    }

    boolean agrees() {
        return agrees;
    }

    // Behind a first fault of a run all others may follow from it.
    private void tell(String fault) {
        wrong++;
        if (agrees) {
            System.out.println(told + "\n" + fault);
        }
        agrees = false;
    }
}
