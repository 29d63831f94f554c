import java.util.ArrayList;
import java.util.List;
import java.util.NoSuchElementException;
import java.util.TreeMap;
import java.util.TreeSet;

/**
 * The document's words, as slowly and as literally as can be: a log that is really kept, a
 * recovery that really reads it, and nothing remembered that can be found out anew.
 */
public final class Model {
    /** One key's way in a plan. */
    private record Way(int source, int target) { }

    /** A record of the log: a plan with the new members, a key that flipped, or (both null) an end. */
    private record Entry(TreeMap<Integer, Way> plan, int[] members, Integer flipped) { }

    private static final class PowerFailure extends RuntimeException {
        private static final long serialVersionUID = 1;
    }

    private final List<TreeMap<Integer, Integer>> stores = new ArrayList<>();
    private final List<Entry> log = new ArrayList<>();
    private final int[] firstMembers = new int[8];
    private int[] members;
    private TreeMap<Integer, Way> plan;
    private TreeMap<Integer, Integer> states;
    private boolean off = false;
    private int writes = 0;
    private int left = -1;

    public Model(int nodes, int points) {
        for (int n = 0; n < 8; n++) {
            stores.add(new TreeMap<>());
            firstMembers[n] = n == 0 || n < nodes ? Math.max(1, Math.min(16, points)) : 0;
        }
        members = firstMembers;
    }

    public int put(int key, int value) {
        power();
        boolean was = isThere(key);
        TreeSet<Integer> others = keysThere();
        others.remove(key);
        if (others.size() >= 256) {
            throw new IllegalStateException();
        }
        try {
            boolean copied = stateOf(key) == 2;
            write(homeOf(key), key, value);
            if (copied) {
                write(plan.get(key).target(), key, value);
            }
        } catch (PowerFailure failure) {
            return -9;
        }
        return was ? 0 : 1;
    }

    public int remove(int key) {
        power();
        if (!isThere(key)) {
            return 0;
        }
        try {
            boolean copied = stateOf(key) == 2;
            write(homeOf(key), key, null);
            if (copied) {
                write(plan.get(key).target(), key, null);
            }
        } catch (PowerFailure failure) {
            return -9;
        }
        return 1;
    }

    public int get(int key) {
        power();
        if (!isThere(key)) {
            throw new NoSuchElementException();
        }
        return stores.get(homeOf(key)).get(key);
    }

    public int join(int node, int points) {
        node(node);
        if (points < 1 || points > 16) {
            throw new IllegalArgumentException();
        }
        power();
        if (plan != null || members[node] != 0) {
            throw new IllegalStateException();
        }
        return change(node, points);
    }

    public int leave(int node) {
        node(node);
        power();
        int others = 0;
        for (int n = 0; n < 8; n++) {
            others += n != node && members[n] > 0 ? 1 : 0;
        }
        if (plan != null || members[node] == 0 || others == 0) {
            throw new IllegalStateException();
        }
        return change(node, 0);
    }

    public int step() {
        power();
        if (plan == null) {
            throw new IllegalStateException();
        }
        try {
            for (int key : plan.keySet()) {
                Way way = plan.get(key);
                switch (states.get(key)) {
                    case 1:
                        write(way.target(), key, stores.get(way.source()).get(key));
                        states.put(key, 2);
                        return 2;
                    case 2:
                        append(new Entry(null, null, key));
                        states.put(key, 3);
                        return 3;
                    case 3:
                        write(way.source(), key, null);
                        states.put(key, 4);
                        return 4;
                    default:
                }
            }
            append(new Entry(null, null, null));
            plan = null;
            return 0;
        } catch (PowerFailure failure) {
            return -9;
        }
    }

    public void fail(int n) {
        if (n < -1) {
            throw new IllegalArgumentException();
        }
        power();
        left = n;
    }

    public int recover() {
        if (!off) {
            throw new IllegalStateException();
        }
        off = false;
        left = -1;
        members = firstMembers;
        plan = null;
        for (Entry entry : log) {
            if (entry.plan() != null) {
                take(entry);
            } else if (entry.flipped() != null) {
                states.put(entry.flipped(), 3);
            } else {
                plan = null;
            }
        }
        return plan == null ? -1 : having(1);
    }

    public boolean off() {
        return off;
    }

    public int place(long x) {
        java.math.BigInteger two64 = java.math.BigInteger.TWO.pow(64);
        java.math.BigInteger u = java.math.BigInteger.valueOf(x).mod(two64);
        java.math.BigInteger y = u.xor(u.shiftRight(29))
                .multiply(new java.math.BigInteger("-7046029254386353131")).mod(two64);
        return y.shiftRight(33).intValueExact();
    }

    public int owner(int key) {
        power();
        return ownerAt(placeFast(key), members);
    }

    public int home(int key) {
        power();
        return homeOf(key);
    }

    public int state(int key) {
        power();
        return stateOf(key);
    }

    public boolean holds(int node, int key) {
        node(node);
        return stores.get(node).containsKey(key);
    }

    public int size(int node) {
        node(node);
        return stores.get(node).size();
    }

    public int key(int node, int i) {
        node(node);
        if (i < 0 || i >= stores.get(node).size()) {
            throw new IndexOutOfBoundsException();
        }
        return new ArrayList<>(stores.get(node).keySet()).get(i);
    }

    public int points(int node) {
        node(node);
        power();
        return members[node];
    }

    public int count(int what) {
        if (what != 0 && what != 1 && what != 2) {
            throw new IllegalArgumentException();
        }
        power();
        if (what == 0) {
            return keysThere().size();
        }
        if (plan == null) {
            return -1;
        }
        return what == 1 ? plan.size() - having(4) : having(3);
    }

    public int written(boolean log) {
        return log ? this.log.size() : writes;
    }

    public long share(int node) {
        node(node);
        power();
        TreeSet<Integer> tops = new TreeSet<>();
        for (int n = 0; n < 8; n++) {
            for (int v = 0; v < members[n]; v++) {
                tops.add(pointPlace(n, v));
            }
        }
        tops.add(Integer.MAX_VALUE);
        long sum = 0;
        long below = -1;
        for (int top : tops) {
            sum += ownerAt(top, members) == node ? top - below : 0;
            below = top;
        }
        return sum;
    }

    /** The key that a step would look at, or null; for tests that must know where things stand. */
    Integer keyAtStep() {
        if (plan == null || off) {
            return null;
        }
        for (int key : plan.keySet()) {
            if (states.get(key) != 4) {
                return key;
            }
        }
        return null;
    }

    private void power() {
        if (off) {
            throw new IllegalStateException();
        }
    }

    private static void node(int node) {
        if (node < 0 || node > 7) {
            throw new IndexOutOfBoundsException();
        }
    }

    private void beforeWrite() {
        if (left == 0) {
            off = true;
            throw new PowerFailure();
        }
        left = left < 0 ? left : left - 1;
        writes++;
    }

    private void write(int node, int key, Integer value) {
        beforeWrite();
        if (value == null) {
            stores.get(node).remove(key);
        } else {
            stores.get(node).put(key, value);
        }
    }

    private void append(Entry entry) {
        beforeWrite();
        log.add(entry);
    }

    private int change(int node, int points) {
        int[] next = members.clone();
        next[node] = points;
        TreeMap<Integer, Way> ways = new TreeMap<>();
        for (int key : keysThere()) {
            int source = ownerAt(placeFast(key), members);
            int target = ownerAt(placeFast(key), next);
            if (source != target) {
                ways.put(key, new Way(source, target));
            }
        }
        Entry entry = new Entry(ways, next, null);
        try {
            append(entry);
        } catch (PowerFailure failure) {
            return -9;
        }
        take(entry);
        return plan.size();
    }

    private void take(Entry entry) {
        members = entry.members();
        plan = entry.plan();
        states = new TreeMap<>();
        for (int key : plan.keySet()) {
            states.put(key, 1);
        }
    }

    private int having(int state) {
        int sum = 0;
        for (int each : states.values()) {
            sum += each == state ? 1 : 0;
        }
        return sum;
    }

    private int stateOf(int key) {
        return plan != null && plan.containsKey(key) ? states.get(key) : 0;
    }

    private int homeOf(int key) {
        int state = stateOf(key);
        return state == 1 || state == 2 ? plan.get(key).source() : ownerAt(placeFast(key), members);
    }

    private boolean isThere(int key) {
        return stores.get(homeOf(key)).containsKey(key);
    }

    private TreeSet<Integer> keysThere() {
        TreeSet<Integer> keys = new TreeSet<>();
        for (TreeMap<Integer, Integer> store : stores) {
            for (int key : store.keySet()) {
                if (isThere(key)) {
                    keys.add(key);
                }
            }
        }
        return keys;
    }

    private static int placeFast(long x) {
        return (int) (((x ^ (x >>> 29)) * -7046029254386353131L) >>> 33);
    }

    private static int pointPlace(int node, int v) {
        return placeFast(1000003L * node + v + (1L << 40));
    }

    private static int ownerAt(int place, int[] members) {
        int atOrAbove = -1;
        int lowest = -1;
        long bestAbove = Long.MAX_VALUE;
        long best = Long.MAX_VALUE;
        for (int n = 0; n < 8; n++) {
            for (int v = 0; v < members[n]; v++) {
                int p = pointPlace(n, v);
                if (p >= place && p < bestAbove) {
                    bestAbove = p;
                    atOrAbove = n;
                }
                if (p < best) {
                    best = p;
                    lowest = n;
                }
            }
        }
        return atOrAbove >= 0 ? atOrAbove : lowest;
    }
}
