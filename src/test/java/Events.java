import java.util.ArrayList;
import java.util.List;
import java.util.TreeMap;

/** Counts what happened in a test's calls, so that the test can ask for all that it was made for. */
final class Events {
    private static final String[] STATES = {"OTHER", "NEW", "COPIED", "FLIPPED", "GONE"};

    private final TreeMap<String, Integer> times = new TreeMap<>();

    String ask(Pair pair, String... call) {
        String where = where(pair.model, call);
        int writesBefore = pair.model.written(false);
        String answer = pair.ask(call);
        times.merge(where + ", " + outcome(answer, pair.model.written(false) - writesBefore), 1, Integer::sum);
        return answer;
    }

    /** Those of the events that did not happen so often. */
    List<String> rarerThan(int often, List<String> events) {
        List<String> rare = new ArrayList<>();
        for (String event : events) {
            if (times.getOrDefault(event, 0) < often) {
                rare.add(event);
            }
        }
        return rare;
    }

    /** All ways in which the power can fail, or not fail, in a call that writes. */
    static List<String> ofAllWrites() {
        List<String> events = new ArrayList<>();
        for (String name : List.of("put", "remove")) {
            for (String state : STATES) {
                events.add(name + " " + state + ", done by " + (state.equals("COPIED") ? 2 : 1));
                events.add(name + " " + state + ", failed behind 0");
            }
            events.add(name + " COPIED, failed behind 1");
        }
        for (String state : List.of("NEW", "COPIED", "FLIPPED", "end")) {
            events.add("step " + state + ", done by 1");
            events.add("step " + state + ", failed behind 0");
        }
        for (String name : List.of("join", "leave")) {
            events.add(name + ", done by 1");
            events.add(name + ", failed behind 0");
        }
        return events;
    }

    private static String where(Model model, String[] call) {
        if (model.off()) {
            return call[0] + " off";
        }
        switch (call[0]) {
            case "put":
            case "remove":
                return call[0] + " " + STATES[model.state(Integer.parseInt(call[1]))];
            case "step":
                Integer key = model.keyAtStep();
                return "step " + (key != null ? STATES[model.state(key)] : "end");
            default:
                return call[0];
        }
    }

    private static String outcome(String answer, int writes) {
        if (answer.startsWith("throws.")) {
            return answer;
        }
        return (answer.equals("-9") ? "failed behind " : "done by ") + writes;
    }
}
