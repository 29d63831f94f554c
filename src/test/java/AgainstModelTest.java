import java.util.Random;
import java.util.Set;

/** Runs of calls drawn from fixed seeds: each answer must be the model's. */
public final class AgainstModelTest {
    private static final int CALLS_OF_AN_OBJECT = 512;
    private static final int RUNS = 1500;
    private static final int[] EDGES = {
        Integer.MIN_VALUE, Integer.MIN_VALUE + 1, -2, -1, 0, 1, 7, 8, 9, 16, 17, 255, 256,
        Integer.MAX_VALUE - 1, Integer.MAX_VALUE
    };
    private static final Set<String> FACE_EXCEPTIONS = Set.of(
        "throws.IllegalStateException", "throws.IllegalArgumentException",
        "throws.IndexOutOfBoundsException", "throws.NoSuchElementException");

    private static final Calls REAL = new Calls(ShardRing.class);
    private static final Calls MODEL = new Calls(Model.class);
    private static int wrong = 0;
    private static int calls = 0;

    private final Random random;
    private final int keyRange;
    private final Object real;
    private final Object model;
    private final StringBuilder told = new StringBuilder();
    private int made = 0;
    private boolean counted = true;

    private AgainstModelTest(int seed, int keyRange) {
        this.random = new Random(seed);
        this.keyRange = keyRange;
        int nodes = random.nextInt(10);
        int points = random.nextInt(3) == 0 ? random.nextInt(19) : 1 + random.nextInt(3);
        this.real = new ShardRing(nodes, points);
        this.model = new Model(nodes, points);
        told.append("new ").append(nodes).append(' ').append(points);
    }

    public static void main(String[] args) {
        for (int seed = 0; seed < RUNS && wrong < 5; seed++) {
            boolean full = seed % 5 == 0;
            AgainstModelTest run = new AgainstModelTest(seed, full ? 262 : 1 + seed % 40);
            if (full) {
                run.fill(250 + seed % 9);
            }
            run.go();
        }
        longRunsNeverBreak();
        System.out.println("AgainstModelTest: " + calls + " calls, " + wrong + " answers not as due");
        if (wrong != 0) {
            System.exit(1);
        }
    }

    // What is answered behind the 512th call is free, but the machine must not throw there.
    private static void longRunsNeverBreak() {
        for (int seed = 0; seed < 20; seed++) {
            AgainstModelTest run = new AgainstModelTest(-1 - seed, 300);
            run.counted = false;
            for (int i = 0; i < 20000; i++) {
                String[] call = run.draw();
                String answer = REAL.answer(run.real, call[0], arguments(call));
                if (answer.startsWith("throws.") && !FACE_EXCEPTIONS.contains(answer)) {
                    wrong++;
                    System.out.println("long run " + seed + ": " + String.join(" ", call) + " " + answer);
                }
            }
        }
    }

    private void fill(int keys) {
        for (int key = 0; key < keys; key++) {
            compare("put", String.valueOf(key), String.valueOf(key));
        }
        made = keys;
    }

    private void go() {
        boolean agrees = true;
        for (; made < CALLS_OF_AN_OBJECT && agrees; made++) {
            agrees = compare(draw());
        }
    }

    private boolean compare(String... call) {
        calls++;
        String due = MODEL.answer(model, call[0], arguments(call));
        String got = REAL.answer(real, call[0], arguments(call));
        told.append("\n").append(String.join(" ", call)).append(" = ").append(due);
        if (got.equals(due)) {
            return true;
        }
        wrong++;
        System.out.println(told + " but answered " + got);
        return false;
    }

    private static String[] arguments(String[] call) {
        return java.util.Arrays.copyOfRange(call, 1, call.length);
    }

    private String[] draw() {
        if (random.nextInt(3) == 0 && isOff()) {
            return call("recover");
        }
        int drawn = random.nextInt(100);
        if (drawn < 22) {
            return call("step");
        }
        if (drawn < 36) {
            return call("put", key(), random.nextInt(100));
        }
        if (drawn < 44) {
            return call("remove", key());
        }
        if (drawn < 52) {
            return call("join", node(), random.nextInt(6) == 0 ? edge() : 1 + random.nextInt(16));
        }
        if (drawn < 58) {
            return call("leave", node());
        }
        if (drawn < 63) {
            return call("fail", random.nextInt(5) == 0 ? edge() : random.nextInt(6) - 1);
        }
        return drawQuestion(drawn);
    }

    // The drawing must not use up the real object's calls where they are counted.
    private boolean isOff() {
        return counted ? MODEL.answer(model, "off").equals("true") : REAL.answer(real, "off").equals("true");
    }

    private String[] drawQuestion(int drawn) {
        switch (drawn % 14) {
            case 0: return call("recover");
            case 1: return call("off");
            case 2: return new String[] {"place", String.valueOf(random.nextLong() >> random.nextInt(64))};
            case 3: return call("owner", random.nextBoolean() ? key() : random.nextInt());
            case 4: return call("home", key());
            case 5: return call("state", key());
            case 6: return call("holds", node(), key());
            case 7: return call("size", node());
            case 8: return call("key", node(), random.nextInt(4) == 0 ? edge() : random.nextInt(8));
            case 9: return call("points", node());
            case 10: return call("count", random.nextInt(8) == 0 ? edge() : random.nextInt(3));
            case 11: return new String[] {"written", String.valueOf(random.nextBoolean())};
            case 12: return call("share", node());
            default: return call("get", key());
        }
    }

    private int key() {
        return random.nextInt(12) == 0 ? edge() : random.nextInt(keyRange);
    }

    private int node() {
        return random.nextInt(12) == 0 ? edge() : random.nextInt(8);
    }

    private int edge() {
        return EDGES[random.nextInt(EDGES.length)];
    }

    private static String[] call(String name, int... arguments) {
        String[] words = new String[arguments.length + 1];
        words[0] = name;
        for (int i = 0; i < arguments.length; i++) {
            words[i + 1] = String.valueOf(arguments[i]);
        }
        return words;
    }
}
