import java.util.Arrays;
import java.util.Random;
import java.util.Set;

/** Runs of calls drawn from fixed seeds: each answer must be the model's. */
public final class AgainstModelTest {
    private static final int RUNS = 1500;
    private static final int[] EDGES = {
        Integer.MIN_VALUE, Integer.MIN_VALUE + 1, -2, -1, 0, 1, 7, 8, 9, 16, 17, 255, 256,
        Integer.MAX_VALUE - 1, Integer.MAX_VALUE
    };
    private static final Set<String> FACE_EXCEPTIONS = Set.of(
        "throws.IllegalStateException", "throws.IllegalArgumentException",
        "throws.IndexOutOfBoundsException", "throws.NoSuchElementException");

    private final Random random;
    private final int keyRange;

    private AgainstModelTest(int seed, int keyRange) {
        this.random = new Random(seed);
        this.keyRange = keyRange;
    }

    public static void main(String[] args) {
        for (int seed = 0; seed < RUNS && Pair.answersNotAsDue() < 5; seed++) {
            boolean full = seed % 5 == 0;
            AgainstModelTest run = new AgainstModelTest(seed, full ? 262 : 1 + seed % 40);
            run.compare(full ? 250 + seed % 9 : 0);
        }
        int broken = callsThatBreak();
        System.out.println("AgainstModelTest: " + Pair.callsAsked() + " calls, " + Pair.answersNotAsDue()
            + " answers not as due; behind the 512th call " + broken + " broke");
        if (Pair.answersNotAsDue() + broken != 0) {
            System.exit(1);
        }
    }

    // What is answered behind the 512th call is free, but the machine must not throw there.
    private static int callsThatBreak() {
        Calls real = new Calls(ShardRing.class);
        int broken = 0;
        for (int seed = 0; seed < 20; seed++) {
            AgainstModelTest run = new AgainstModelTest(-1 - seed, 300);
            ShardRing object = new ShardRing(run.drawNodes(), run.drawPoints());
            for (int i = 0; i < 20000; i++) {
                String[] call = run.draw(object.off());
                String answer = real.answer(object, call[0], Arrays.copyOfRange(call, 1, call.length));
                if (answer.startsWith("throws.") && !FACE_EXCEPTIONS.contains(answer)) {
                    broken++;
                    System.out.println("long run " + seed + ": " + String.join(" ", call) + " " + answer);
                }
            }
        }
        return broken;
    }

    private void compare(int keysAtFirst) {
        Pair pair = new Pair(drawNodes(), drawPoints());
        for (int key = 0; key < keysAtFirst; key++) {
            pair.ask(call("put", key, key));
        }
        while (pair.agrees() && pair.callsLeft() > 0) {
            pair.ask(draw(pair.model.off()));
        }
    }

    private int drawNodes() {
        return random.nextInt(10);
    }

    private int drawPoints() {
        return random.nextInt(3) == 0 ? random.nextInt(19) : 1 + random.nextInt(3);
    }

    private String[] draw(boolean isOff) {
        if (isOff && random.nextInt(3) == 0) {
            return call("recover");
        }
        int drawn = random.nextInt(100);
        if (drawn < 22) {
            return call("step");
        }
        if (drawn < 36) {
            return call("put", key(), random.nextInt(100));
        }
        if (drawn < 44) {
            return call("remove", key());
        }
        if (drawn < 52) {
            return call("join", node(), random.nextInt(6) == 0 ? edge() : 1 + random.nextInt(16));
        }
        if (drawn < 58) {
            return call("leave", node());
        }
        if (drawn < 63) {
            return call("fail", random.nextInt(5) == 0 ? edge() : random.nextInt(6) - 1);
        }
        return drawQuestion(drawn);
    }

    private String[] drawQuestion(int drawn) {
        switch (drawn % 14) {
            case 0: return call("recover");
            case 1: return call("off");
            case 2: return new String[] {"place", String.valueOf(random.nextLong() >> random.nextInt(64))};
            case 3: return call("owner", random.nextBoolean() ? key() : random.nextInt());
            case 4: return call("home", key());
            case 5: return call("state", key());
            case 6: return call("holds", node(), key());
            case 7: return call("size", node());
            case 8: return call("key", node(), random.nextInt(4) == 0 ? edge() : random.nextInt(8));
            case 9: return call("points", node());
            case 10: return call("count", random.nextInt(8) == 0 ? edge() : random.nextInt(3));
            case 11: return new String[] {"written", String.valueOf(random.nextBoolean())};
            case 12: return call("share", node());
            default: return call("get", key());
        }
    }

    private int key() {
        return random.nextInt(12) == 0 ? edge() : random.nextInt(keyRange);
    }

    private int node() {
        return random.nextInt(12) == 0 ? edge() : random.nextInt(8);
    }

    private int edge() {
        return EDGES[random.nextInt(EDGES.length)];
    }

    private static String[] call(String name, int... arguments) {
        String[] words = new String[arguments.length + 1];
        words[0] = name;
        for (int i = 0; i < arguments.length; i++) {
            words[i + 1] = String.valueOf(arguments[i]);
        }
        return words;
    }
}
