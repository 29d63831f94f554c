import java.util.ArrayList;
import java.util.List;
import java.util.Random;
import java.util.TreeMap;

/**
 * Runs of 512 calls on one object, in which plans, writes, removals, power failures and recoveries
 * are mixed. Each answer must be the model's; and what a user knows from its own calls alone must
 * hold too: nothing that was written is lost, whatever moves and whenever the power fails.
 */
public final class LongRunsTest {
    /** How many keys are put at first, of how many in all, and how often of a hundred a call is drawn. */
    private record Mix(int keysAtFirst, int keys, int step, int put, int remove, int change, int fail) { }

    private static final Mix[] MIXES = {
        new Mix(0, 12, 36, 20, 10, 8, 8),
        new Mix(6, 6, 30, 14, 12, 6, 24),
        new Mix(80, 90, 45, 12, 10, 10, 4),
        new Mix(256, 290, 30, 22, 8, 12, 5),
    };
    private static final int RUNS_OF_A_MIX = 200;
    private static final int CALLS_KEPT_FOR_THE_END = 60;
    private static final int MOST_KEYS = 256;
    // Neighbours are drawn as keys far from each other, below zero too.
    private static final int[] SPREADS = {1, -1, 715827883, 8};

    private static final Events EVENTS = new Events();

    private final Random random;
    private final Mix mix;
    private final int spread;
    private final Pair pair;
    private final TreeMap<Integer, Integer> values = new TreeMap<>();
    private boolean failureIsTold = false;

    private LongRunsTest(int seed, Mix mix) {
        this.random = new Random(seed);
        this.mix = mix;
        this.spread = SPREADS[random.nextInt(SPREADS.length)];
        this.pair = new Pair(1 + random.nextInt(8), 1 + random.nextInt(16));
    }

    public static void main(String[] args) {
        for (Mix mix : MIXES) {
            for (int seed = 0; seed < RUNS_OF_A_MIX && Pair.answersNotAsDue() == 0; seed += 2) {
                runInTurns(new LongRunsTest(seed, mix), new LongRunsTest(seed + 1, mix));
            }
        }
        List<String> due = Events.ofAllWrites();
        due.addAll(eventsOfRefusals());
        List<String> missing = EVENTS.rarerThan(20, due);
        missing.forEach(event -> System.out.println("too seldom: " + event));
        System.out.println("LongRunsTest: " + Pair.callsAsked() + " calls, " + Pair.answersNotAsDue()
            + " answers not as due");
        if (Pair.answersNotAsDue() != 0 || !missing.isEmpty()) {
            System.exit(1);
        }
    }

    private static List<String> eventsOfRefusals() {
        List<String> events = new ArrayList<>();
        String state = ", throws.IllegalStateException";
        for (String name : List.of("put", "remove", "get", "join", "leave", "step", "fail", "owner", "home",
                "state", "points", "count", "share")) {
            events.add(name + " off" + state);
        }
        for (String name : List.of("put OTHER", "join", "leave", "recover", "step end")) {
            events.add(name + state);
        }
        events.add("get, throws.NoSuchElementException");
        for (String name : List.of("join", "leave", "holds", "size", "key", "points", "share")) {
            events.add(name + ", throws.IndexOutOfBoundsException");
            events.add(name + " off, throws.IndexOutOfBoundsException");
        }
        for (String name : List.of("join", "fail", "count")) {
            events.add(name + ", throws.IllegalArgumentException");
            events.add(name + " off, throws.IllegalArgumentException");
        }
        return events;
    }

    // Two objects that shared anything would show it.
    private static void runInTurns(LongRunsTest one, LongRunsTest other) {
        one.putFirstKeys();
        other.putFirstKeys();
        while (one.canGoOn() || other.canGoOn()) {
            if (one.canGoOn()) {
                one.makeCall();
            }
            if (other.canGoOn()) {
                other.makeCall();
            }
        }
        one.lookAtTheEnd();
        other.lookAtTheEnd();
    }

    private boolean canGoOn() {
        return pair.agrees() && pair.callsLeft() > CALLS_KEPT_FOR_THE_END;
    }

    private void putFirstKeys() {
        for (int i = 0; i < mix.keysAtFirst(); i++) {
            put(i * spread);
        }
    }

    private void makeCall() {
        if (pair.model.off() && random.nextInt(3) != 0) {
            recoverOrAsk();
            return;
        }
        int drawn = random.nextInt(100) - mix.step();
        if (drawn < 0) {
            step();
        } else if ((drawn -= mix.put()) < 0) {
            put(drawKey());
        } else if ((drawn -= mix.remove()) < 0) {
            remove(drawKey());
        } else if ((drawn -= mix.change()) < 0) {
            change();
        } else if (drawn < mix.fail()) {
            fail();
        } else {
            askSomething();
        }
    }

    private void recoverOrAsk() {
        if (random.nextBoolean()) {
            recover();
        } else {
            askSomething();
        }
    }

    private void put(int key) {
        int value = random.nextInt(1000) - 20;
        int writesBefore = writesIfFailureIsTold();
        String answer = ask("put", key, value);
        if (answer.startsWith("throws.")) {
            boolean full = values.size() == MOST_KEYS && !values.containsKey(key);
            pair.require("put is refused without power, or if 256 others are there", pair.model.off() || full);
            return;
        }
        if (!answer.equals("-9")) {
            pair.require("put tells whether the key was there", answer.equals(values.containsKey(key) ? "0" : "1"));
        }
        if (!answer.equals("-9") || number(ask("written", false)) > writesBefore) {
            values.put(key, value);
        }
    }

    private void remove(int key) {
        int writesBefore = writesIfFailureIsTold();
        String answer = ask("remove", key);
        if (answer.startsWith("throws.")) {
            pair.require("remove is refused without power alone", pair.model.off());
            return;
        }
        if (!answer.equals("-9")) {
            pair.require("remove tells whether the key was there", answer.equals(values.containsKey(key) ? "1" : "0"));
        }
        if (!answer.equals("-9") || number(ask("written", false)) > writesBefore) {
            values.remove(key);
        }
    }

    private int writesIfFailureIsTold() {
        return failureIsTold ? number(ask("written", false)) : 0;
    }

    private void step() {
        if (!ask("step").equals("0")) {
            return;
        }
        int sum = 0;
        for (int node = 0; node < 8; node++) {
            sum += number(ask("size", node));
        }
        pair.require("behind a plan each key is in one store alone", sum == values.size());
    }

    private void change() {
        int node = drawNode();
        boolean canTell = !pair.model.off() && node >= 0 && node < 8;
        boolean isMember = canTell ? pair.model.points(node) > 0 : random.nextBoolean();
        // Now and then a member is told to join, and one that is none to leave.
        if (isMember == (random.nextInt(8) != 0)) {
            ask("leave", node);
        } else {
            ask("join", node, random.nextInt(10) == 0 ? random.nextInt(40) - 20 : 1 + random.nextInt(16));
        }
    }

    private void fail() {
        int n = random.nextInt(10) == 0 ? -2 - random.nextInt(9) : random.nextInt(6) - 1;
        if (ask("fail", n).equals("null")) {
            failureIsTold = n >= 0;
        }
    }

    private void recover() {
        if (!ask("recover").startsWith("throws.")) {
            failureIsTold = false;
        }
    }

    private void askSomething() {
        switch (random.nextInt(15)) {
            case 0: recover(); break;
            case 1: ask("off"); break;
            case 2: ask("place", random.nextLong() >> random.nextInt(64)); break;
            case 3: ask("owner", random.nextInt()); break;
            case 4: ask("home", drawKey()); break;
            case 5: ask("state", drawKey()); break;
            case 6: ask("holds", drawNode(), drawKey()); break;
            case 7: ask("size", drawNode()); break;
            case 8: ask("key", drawNode(), random.nextInt(10) - 1); break;
            case 9: ask("points", drawNode()); break;
            case 10: ask("count", random.nextInt(5) - 1); break;
            case 11: ask("written", random.nextBoolean()); break;
            case 12: ask("share", drawNode()); break;
            default: get(drawKey()); break;
        }
    }

    private void get(int key) {
        String answer = ask("get", key);
        if (!pair.model.off()) {
            Integer value = values.get(key);
            pair.require("get answers what was written",
                answer.equals(value == null ? "throws.NoSuchElementException" : String.valueOf(value)));
        }
    }

    private void lookAtTheEnd() {
        if (!pair.agrees()) {
            return;
        }
        if (pair.model.off()) {
            recover();
        }
        pair.require("as many keys are there as were written", number(ask("count", 0)) == values.size());
        List<Integer> keys = new ArrayList<>(values.keySet());
        java.util.Collections.shuffle(keys, random);
        for (int key : keys.subList(0, Math.min(keys.size(), pair.callsLeft()))) {
            get(key);
        }
        while (pair.callsLeft() > 0) {
            askSomething();
        }
    }

    // The key that the next step looks at is the one for which the order of writes matters.
    private int drawKey() {
        Integer atStep = pair.model.keyAtStep();
        return atStep != null && random.nextInt(3) == 0 ? atStep : random.nextInt(mix.keys()) * spread;
    }

    private int drawNode() {
        return random.nextInt(7) == 0 ? random.nextInt(40) - 20 : random.nextInt(8);
    }

    private String ask(String name, Object... arguments) {
        String[] call = new String[arguments.length + 1];
        call[0] = name;
        for (int i = 0; i < arguments.length; i++) {
            call[i + 1] = String.valueOf(arguments[i]);
        }
        return EVENTS.ask(pair, call);
    }

    // An answer that is no number is told already as one that is not due.
    private static int number(String answer) {
        return answer.startsWith("throws.") ? -1 : Integer.parseInt(answer);
    }
}
