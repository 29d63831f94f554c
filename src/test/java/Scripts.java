import java.util.ArrayList;
import java.util.Arrays;
import java.util.List;

/**
 * Runs scripts of calls with the answers that are due.
 *
 * A line is a call, " = " and the answer that is due; several answers mean the call made again
 * for each of them; a first argument a..b means a call for each number from a to b. "new" makes
 * the object for the lines behind it, and a line that begins with # says why. ISE, IAE, OUT and
 * NOT_THERE are the exceptions; whenever one is due, it is also checked that nothing has changed.
 */
final class Scripts {
    private static final int CALLS_OF_AN_OBJECT = 512;
    private static final Calls REAL = new Calls(ShardRing.class);
    private static final Calls MODEL = new Calls(Model.class);

    private final String testName;
    private int calls = 0;
    private int refused = 0;
    private int wrong = 0;

    private String name;
    private int nodes;
    private int points;
    private Object real;
    private Object model;
    private int made;
    private List<String[]> accepted;

    Scripts(String testName) {
        this.testName = testName;
    }

    void run(String scriptName, String text) {
        name = scriptName;
        for (String line : text.strip().split("\\s*\n\\s*")) {
            if (!line.startsWith("#")) {
                runLine(line);
            }
        }
    }

    void check(String what, boolean holds) {
        calls++;
        if (!holds) {
            wrong++;
            System.out.println(what + ": does not hold");
        }
    }

    /** Prints how it went, and ends the machine with exit code 1 if an answer was not as due. */
    void end() {
        System.out.println(testName + ": " + calls + " calls, " + refused + " of them refused, "
            + wrong + " answers not as due");
        if (wrong != 0) {
            System.exit(1);
        }
    }

    private void runLine(String line) {
        String[] sides = line.split(" = ");
        String[] call = sides[0].split(" ");
        if (call[0].equals("new")) {
            nodes = Integer.parseInt(call[1]);
            points = Integer.parseInt(call[2]);
            real = new ShardRing(nodes, points);
            model = new Model(nodes, points);
            made = 0;
            accepted = new ArrayList<>();
            return;
        }
        for (String due : sides[1].split(" ")) {
            callEach(call, longName(due));
        }
    }

    private void callEach(String[] call, String due) {
        int range = call.length == 1 ? -1 : call[1].indexOf("..");
        if (range < 0) {
            compare(call, due);
            return;
        }
        int first = Integer.parseInt(call[1].substring(0, range));
        int last = Integer.parseInt(call[1].substring(range + 2));
        for (int i = first; i <= last; i++) {
            String[] each = call.clone();
            each[1] = String.valueOf(i);
            compare(each, due);
        }
    }

    // The model is held to the scripts too, since AgainstModelTest trusts it.
    private void compare(String[] call, String due) {
        calls++;
        made++;
        requireCallsLeft(made);
        tellIfOther("answered ", call, answer(REAL, real, call), due);
        tellIfOther("(the model) answered ", call, answer(MODEL, model, call), due);
        if (due.startsWith("throws.")) {
            refused++;
            compareTwins(call);
        } else {
            accepted.add(call);
        }
    }

    /**
     * Of two objects with the same calls behind them one refuses a call: they must not differ then.
     * Nothing else that is refused is asked of them: it could hide what this refusal did.
     */
    private void compareTwins(String[] call) {
        Object asked = new ShardRing(nodes, points);
        Object unasked = new ShardRing(nodes, points);
        Object guide = new Model(nodes, points);
        for (String[] each : accepted) {
            answer(REAL, asked, each);
            answer(REAL, unasked, each);
            answer(MODEL, guide, each);
        }
        answer(REAL, asked, call);
        int number = accepted.size() + 1;
        for (String[] each : restFor(call)) {
            if (answer(MODEL, guide, each).startsWith("throws.")) {
                continue;
            }
            number++;
            String got = answer(REAL, asked, each);
            String due = answer(REAL, unasked, each);
            if (!got.equals(due)) {
                tellIfOther("was refused and changed something: " + told(each) + " answered ", call, got, due);
                return;
            }
        }
        requireCallsLeft(number);
    }

    // What can be seen of all nodes and of some keys; behind a recovery, if the power is off; then
    // writes, until a failure that was told comes, and a failure anyway: so it shows too what is
    // told and what is only known.
    private static List<String[]> restFor(String[] call) {
        List<String> keys = new ArrayList<>(List.of("1", "2"));
        keys.add(call.length > 1 && !call[0].equals("written") ? call[1] : "0");
        List<String[]> rest = new ArrayList<>();
        look(rest, keys);
        addAll(rest, "recover", "count 0", "count 1", "count 2", "state 1", "state 2");
        addAll(rest, "step", "step", "step", "step", "step", "step");
        addAll(rest, "put 1 70", "put 2 71", "put 1 72", "put 2 73", "recover", "fail 0", "put 2 74", "recover");
        look(rest, keys);
        return rest;
    }

    private static void look(List<String[]> rest, List<String> keys) {
        addAll(rest, "off", "written true", "written false", "count 0", "count 1", "count 2");
        for (int node = 0; node < 8; node++) {
            addAll(rest, "size " + node, "key " + node + " 0", "points " + node, "share " + node);
            for (String key : keys) {
                addAll(rest, "holds " + node + " " + key);
            }
        }
        for (String key : keys) {
            addAll(rest, "owner " + key, "home " + key, "state " + key, "get " + key);
        }
    }

    private static void addAll(List<String[]> rest, String... texts) {
        for (String text : texts) {
            rest.add(text.split(" "));
        }
    }

    private void tellIfOther(String how, String[] call, String got, String due) {
        if (!got.equals(due)) {
            wrong++;
            System.out.println(name + ": call " + made + ", " + told(call) + " " + how + got
                + ", due is " + due);
        }
    }

    // Behind the 512th call answers are free: a script that relied on one would be wrong itself.
    private void requireCallsLeft(int number) {
        if (number > CALLS_OF_AN_OBJECT) {
            throw new IllegalStateException(name + ": more calls than an object is used for");
        }
    }

    private static String answer(Calls calls, Object object, String[] call) {
        return calls.answer(object, call[0], Arrays.copyOfRange(call, 1, call.length));
    }

    private static String told(String[] call) {
        return call[0] + "(" + String.join(", ", Arrays.copyOfRange(call, 1, call.length)) + ")";
    }

    private static String longName(String due) {
        switch (due) {
            case "ISE": return "throws.IllegalStateException";
            case "IAE": return "throws.IllegalArgumentException";
            case "OUT": return "throws.IndexOutOfBoundsException";
            case "NOT_THERE": return "throws.NoSuchElementException";
            default: return due;
        }
    }
}
