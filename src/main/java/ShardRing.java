import java.util.NoSuchElementException;

/** Keys spread over nodes by a ring of points, moved by steps when a node joins or leaves. */
public final class ShardRing {
    public static final int NONE = -1;
    public static final int FAILED = -9;
    public static final int OTHER = 0, NEW = 1, COPIED = 2, FLIPPED = 3, GONE = 4;

    private static final int NODES = 8;
    private static final int MOST_POINTS = 16;
    private static final int MOST_KEYS = 256;
    private static final long ALL_PLACES = 2147483648L;

    private final Store[] stores = new Store[NODES];
    private final Ring ring = new Ring();
    private final Plan plan = new Plan();
    private final Power power = new Power();

    // Kept as a number, since only put and remove change it: a key's home changes
    // when it flips, and then its source's and its target's store have the same.
    private int keysThere = 0;

    public ShardRing(int nodes, int points) {
        int members = nearest(nodes, NODES);
        int pointsEach = nearest(points, MOST_POINTS);
        for (int node = 0; node < NODES; node++) {
            stores[node] = new Store();
            if (node < members) {
                ring.addMember(node, pointsEach);
            }
        }
    }

    public int put(int key, int value) throws IllegalStateException {
        requirePower();
        Store homeStore = stores[homeOf(key)];
        boolean wasThere = homeStore.has(key);
        if (!wasThere && keysThere >= MOST_KEYS) {
            throw new IllegalStateException("256 other keys are there");
        }
        if (!power.allowsWrite()) {
            return FAILED;
        }
        homeStore.set(key, value);
        if (!wasThere) {
            keysThere++;
        }
        int row = plan.copiedRow(key);
        if (row != NONE) {
            if (!power.allowsWrite()) {
                return FAILED;
            }
            stores[plan.targets[row]].set(key, value);
        }
        return wasThere ? 0 : 1;
    }

    public int remove(int key) throws IllegalStateException {
        requirePower();
        Store homeStore = stores[homeOf(key)];
        if (!homeStore.has(key)) {
            return 0;
        }
        if (!power.allowsWrite()) {
            return FAILED;
        }
        homeStore.takeOff(key);
        keysThere--;
        int row = plan.copiedRow(key);
        if (row != NONE) {
            if (!power.allowsWrite()) {
                return FAILED;
            }
            stores[plan.targets[row]].takeOff(key);
        }
        return 1;
    }

    public int get(int key) throws IllegalStateException, NoSuchElementException {
        requirePower();
        Store homeStore = stores[homeOf(key)];
        int row = homeStore.rowOf(key);
        if (row == NONE) {
            throw new NoSuchElementException("the key is not there");
        }
        return homeStore.values[row];
    }

    public int join(int node, int points)
            throws IndexOutOfBoundsException, IllegalArgumentException, IllegalStateException {
        requireNode(node);
        if (points < 1 || points > MOST_POINTS) {
            throw new IllegalArgumentException("points are not 1 .. 16");
        }
        requirePower();
        requireNoPlan();
        if (ring.pointsOf[node] > 0) {
            throw new IllegalStateException("the node is a member");
        }
        if (!power.allowsRecord()) {
            return FAILED;
        }
        ring.addMember(node, points);
        return makePlan();
    }

    public int leave(int node) throws IndexOutOfBoundsException, IllegalStateException {
        requireNode(node);
        requirePower();
        requireNoPlan();
        int points = ring.pointsOf[node];
        if (points == 0) {
            throw new IllegalStateException("the node is no member");
        }
        if (points == ring.length) {
            throw new IllegalStateException("the node is the only member");
        }
        if (!power.allowsRecord()) {
            return FAILED;
        }
        ring.dropMember(node);
        return makePlan();
    }

    public int step() throws IllegalStateException {
        requirePower();
        if (!plan.isThere) {
            throw new IllegalStateException("there is no plan");
        }
        int row = plan.firstNotGone();
        if (row == NONE) {
            return endPlan();
        }
        switch (plan.states[row]) {
            case NEW:
                return copyToTarget(row);
            case COPIED:
                return flip(row);
            default:
                return takeOffSource(row);
        }
    }

    public void fail(int n) throws IllegalArgumentException, IllegalStateException {
        if (n < NONE) {
            throw new IllegalArgumentException("n is below -1");
        }
        requirePower();
        power.writesLeft = n;
    }

    public int recover() throws IllegalStateException {
        if (power.isOn) {
            throw new IllegalStateException("the power is on");
        }
        power.turnOn();
        plan.forgetUnwritten();
        return plan.isThere ? plan.rowsThatAre(NEW) : NONE;
    }

    public boolean off() {
        return !power.isOn;
    }

    public int place(long x) {
        return placeOf(x);
    }

    public int owner(int key) throws IllegalStateException {
        requirePower();
        return ring.ownerOf(key);
    }

    public int home(int key) throws IllegalStateException {
        requirePower();
        return homeOf(key);
    }

    public int state(int key) throws IllegalStateException {
        requirePower();
        int row = plan.rowOf(key);
        return row == NONE ? OTHER : plan.states[row];
    }

    public boolean holds(int node, int key) throws IndexOutOfBoundsException {
        requireNode(node);
        return stores[node].has(key);
    }

    public int size(int node) throws IndexOutOfBoundsException {
        requireNode(node);
        return stores[node].length;
    }

    public int key(int node, int i) throws IndexOutOfBoundsException {
        requireNode(node);
        Store store = stores[node];
        if (i < 0 || i >= store.length) {
            throw new IndexOutOfBoundsException("the store has not so many keys");
        }
        return store.keys[i];
    }

    public int points(int node) throws IndexOutOfBoundsException, IllegalStateException {
        requireNode(node);
        requirePower();
        return ring.pointsOf[node];
    }

    public int count(int what) throws IllegalArgumentException, IllegalStateException {
        if (what < 0 || what > 2) {
            throw new IllegalArgumentException("what is not 0, 1 or 2");
        }
        requirePower();
        if (what == 0) {
            return keysThere;
        }
        if (!plan.isThere) {
            return NONE;
        }
        return what == 1 ? plan.length - plan.rowsThatAre(GONE) : plan.rowsThatAre(FLIPPED);
    }

    public int written(boolean log) {
        return log ? power.records : power.writes;
    }

    public long share(int node) throws IndexOutOfBoundsException, IllegalStateException {
        requireNode(node);
        requirePower();
        return ring.placesOf(node);
    }

    private void requirePower() {
        if (!power.isOn) {
            throw new IllegalStateException("the power is off");
        }
    }

    private void requireNoPlan() {
        if (plan.isThere) {
            throw new IllegalStateException("there is a plan");
        }
    }

    private static void requireNode(int node) {
        if (node < 0 || node >= NODES) {
            throw new IndexOutOfBoundsException("there is no such node");
        }
    }

    private int homeOf(int key) {
        int row = plan.rowOf(key);
        if (row != NONE && (plan.states[row] == NEW || plan.states[row] == COPIED)) {
            return plan.sources[row];
        }
        return ring.ownerOf(key);
    }

    // Without a plan every key in a store is there and the store is its owner's, by the
    // members that were: a plan ends only when nothing is left outside the owners' stores.
    private int makePlan() {
        plan.begin();
        for (int source = 0; source < NODES; source++) {
            Store store = stores[source];
            for (int i = 0; i < store.length; i++) {
                int key = store.keys[i];
                int target = ring.ownerOf(key);
                if (target != source) {
                    plan.add(key, source, target);
                }
            }
        }
        return plan.length;
    }

    private int copyToTarget(int row) {
        if (!power.allowsWrite()) {
            return FAILED;
        }
        stores[plan.targets[row]].copyFrom(stores[plan.sources[row]], plan.keys[row]);
        plan.states[row] = COPIED;
        return COPIED;
    }

    private int flip(int row) {
        if (!power.allowsRecord()) {
            return FAILED;
        }
        plan.states[row] = FLIPPED;
        return FLIPPED;
    }

    private int takeOffSource(int row) {
        if (!power.allowsWrite()) {
            return FAILED;
        }
        stores[plan.sources[row]].takeOff(plan.keys[row]);
        plan.states[row] = GONE;
        return GONE;
    }

    private int endPlan() {
        if (!power.allowsRecord()) {
            return FAILED;
        }
        plan.end();
        return OTHER;
    }

    private static int nearest(int number, int most) {
        return Math.max(1, Math.min(most, number));
    }

    private static int placeOf(long x) {
        long y = (x ^ (x >>> 29)) * -7046029254386353131L;
        return (int) (y >>> 33);
    }

    private static int firstNotBelow(int[] ascending, int length, int sought) {
        int low = 0;
        int high = Math.min(length, ascending.length);
        // 32 halvings are enough for every length that an int can tell.
        for (int halving = 0; halving < 32 && low < high; halving++) {
            int middle = (low + high) >>> 1;
            if (ascending[middle] < sought) {
                low = middle + 1;
            } else {
                high = middle;
            }
        }
        return low;
    }

    private static int rowWith(int[] ascending, int length, int sought) {
        int i = firstNotBelow(ascending, length, sought);
        return i < length && i < ascending.length && ascending[i] == sought ? i : NONE;
    }

    /** Opens a gap at a row, the rows behind it moving up by one; there must be room for it. */
    private static void openGap(int[] rows, int length, int at) {
        System.arraycopy(rows, at, rows, at + 1, length - at);
    }

    private static void closeGap(int[] rows, int length, int at) {
        System.arraycopy(rows, at + 1, rows, at, length - at - 1);
    }

    /** The members' points, ordered by place and, at the same place, by node. */
    private static final class Ring {
        final int[] pointsOf = new int[NODES];
        final int[] places = new int[NODES * MOST_POINTS];
        final int[] owners = new int[NODES * MOST_POINTS];
        int length = 0;

        void addMember(int node, int points) {
            pointsOf[node] = points;
            for (int v = 0; v < points; v++) {
                addPoint(placeOf(1000003L * node + v + (1L << 40)), node);
            }
        }

        void dropMember(int node) {
            pointsOf[node] = 0;
            int kept = 0;
            for (int i = 0; i < length; i++) {
                if (owners[i] != node) {
                    places[kept] = places[i];
                    owners[kept] = owners[i];
                    kept++;
                }
            }
            length = kept;
        }

        int ownerOf(int key) {
            int i = firstNotBelow(places, length, placeOf(key));
            return owners[i < length ? i : 0];
        }

        long placesOf(int node) {
            long sum = 0;
            long below = -1;
            for (int i = 0; i < length; i++) {
                if (owners[i] == node) {
                    sum += places[i] - below;
                }
                below = places[i];
            }
            // The places above the last point belong to the first one.
            return owners[0] == node ? sum + (ALL_PLACES - 1 - below) : sum;
        }

        private void addPoint(int place, int node) {
            if (length >= places.length) {
                return;
            }
            int at = firstNotBelow(places, length, place);
            while (at < length && places[at] == place && owners[at] < node) {
                at++;
            }
            openGap(places, length, at);
            openGap(owners, length, at);
            places[at] = place;
            owners[at] = node;
            length++;
        }
    }

    /** What one node has written: its keys, ascending, with their values. */
    private static final class Store {
        // At most 256 keys are there, and each of at most 256 keys of a plan may be
        // in one store more.
        static final int ROOM = 2 * MOST_KEYS;

        final int[] keys = new int[ROOM];
        final int[] values = new int[ROOM];
        int length = 0;

        int rowOf(int key) {
            return rowWith(keys, length, key);
        }

        boolean has(int key) {
            return rowOf(key) != NONE;
        }

        void set(int key, int value) {
            int i = firstNotBelow(keys, length, key);
            if (i < length && keys[i] == key) {
                values[i] = value;
            } else if (length < ROOM) {
                openGap(keys, length, i);
                openGap(values, length, i);
                keys[i] = key;
                values[i] = value;
                length++;
            }
        }

        void takeOff(int key) {
            int i = rowOf(key);
            if (i != NONE) {
                closeGap(keys, length, i);
                closeGap(values, length, i);
                length--;
            }
        }

        void copyFrom(Store source, int key) {
            int i = source.rowOf(key);
            if (i == NONE) {
                takeOff(key);
            } else {
                set(key, source.values[i]);
            }
        }
    }

    /** The keys that move, ascending; without a plan there is no row. */
    private static final class Plan {
        final int[] keys = new int[MOST_KEYS];
        final int[] sources = new int[MOST_KEYS];
        final int[] targets = new int[MOST_KEYS];
        final int[] states = new int[MOST_KEYS];
        int length = 0;
        boolean isThere = false;

        void begin() {
            isThere = true;
            length = 0;
        }

        void end() {
            isThere = false;
            length = 0;
        }

        void add(int key, int source, int target) {
            if (length >= MOST_KEYS) {
                return;
            }
            int i = firstNotBelow(keys, length, key);
            openGap(keys, length, i);
            openGap(sources, length, i);
            openGap(targets, length, i);
            keys[i] = key;
            sources[i] = source;
            targets[i] = target;
            // A plan's keys are all NEW while they are added, so the last row will do.
            states[length] = NEW;
            length++;
        }

        int rowOf(int key) {
            return rowWith(keys, length, key);
        }

        int copiedRow(int key) {
            int i = rowOf(key);
            return i != NONE && states[i] == COPIED ? i : NONE;
        }

        int firstNotGone() {
            for (int i = 0; i < length; i++) {
                if (states[i] != GONE) {
                    return i;
                }
            }
            return NONE;
        }

        int rowsThatAre(int state) {
            int sum = 0;
            for (int i = 0; i < length; i++) {
                if (states[i] == state) {
                    sum++;
                }
            }
            return sum;
        }

        /** Only that a key flipped is in the log; COPIED and GONE were never written. */
        void forgetUnwritten() {
            for (int i = 0; i < length; i++) {
                if (states[i] == COPIED) {
                    states[i] = NEW;
                } else if (states[i] == GONE) {
                    states[i] = FLIPPED;
                }
            }
        }
    }

    /** Every write asks here first, so that the power can fail before it. */
    private static final class Power {
        boolean isOn = true;
        int writesLeft = NONE;
        int writes = 0;
        // The records' number stands for the log: what they tell (members, plan, flips)
        // is changed only together with it, so it need not be kept twice.
        int records = 0;

        void turnOn() {
            isOn = true;
            writesLeft = NONE;
        }

        boolean allowsWrite() {
            if (writesLeft == 0) {
                isOn = false;
                return false;
            }
            if (writesLeft > 0) {
                writesLeft--;
            }
            writes++;
            return true;
        }

        boolean allowsRecord() {
            if (!allowsWrite()) {
                return false;
            }
            records++;
            return true;
        }
    }
}
