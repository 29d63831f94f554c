/**
 * For each promise its ordinary answers, its edges and its wrong inputs, as {@link Scripts}.
 *
 * Used all over: with the members 0 and 1 of a point each, the keys -1, 0 and 8 belong to node 0
 * and 1 to 7 to node 1; with node 2 of a point too, 1, 2 and 4 to 7 belong to that one.
 */
public final class PromisesTest {
    private static final Scripts SCRIPTS = new Scripts("PromisesTest");

    private PromisesTest() { }

    public static void main(String[] args) {
        newObject();
        put();
        putWithPlan();
        remove();
        get();
        join();
        leave();
        severalNodes();
        step();
        stepFails();
        fail();
        recover();
        off();
        place();
        owner();
        home();
        state();
        holds();
        size();
        key();
        points();
        count();
        written();
        share();
        readme();
        SCRIPTS.end();
    }

    private static void newObject() {
        SCRIPTS.run("promise 1, a new object", """
            new 3 4
            points 0..2 = 4
            points 3..7 = 0
            size 0..7 = 0
            count 0 = 0
            count 1..2 = -1
            written true = 0
            written false = 0
            off = false
            step = ISE
            put 1 1 = 1
            # the nearest of 1 .. 8 and of 1 .. 16
            new 0 0
            points 0 = 1
            points 1..7 = 0
            new -2147483648 -2147483648
            points 0 = 1
            points 1..7 = 0
            new 9 17
            points 0..7 = 16
            new 2147483647 2147483647
            points 0..7 = 16
            new 8 16
            points 0..7 = 16
            new 7 15
            points 0..6 = 15
            points 7 = 0
            new 1 1
            points 0 = 1
            points 1..7 = 0
            new 2 -1
            points 0..1 = 1
            points 2..7 = 0
            """);
    }

    private static void put() {
        SCRIPTS.run("promise 2, put", """
            new 1 1
            put 1 10 = 1
            put 1 11 = 0
            get 1 = 11
            put -2147483648 2147483647 = 1
            put 2147483647 -2147483648 = 1
            put 0 0 = 1
            get -2147483648 = 2147483647
            get 2147483647 = -2147483648
            get 0 = 0
            key 0 0 = -2147483648
            key 0 3 = 2147483647
            # the same value again is a write too
            put 1 11 = 0
            written false = 6
            written true = 0
            # 256 other keys, and 255 others
            new 8 16
            put 0..254 5 = 1
            put 255 5 = 1
            put 256 5 = ISE
            put -1 5 = ISE
            put 255 6 = 0
            get 255 = 6
            count 0 = 256
            written false = 257
            remove 7 = 1
            put 256 5 = 1
            put 7 5 = ISE
            count 0 = 256
            # the power fails before the write
            new 1 1
            put 1 10 = 1
            fail 0 = null
            put 1 11 = -9
            off = true
            put 1 12 = ISE
            put 2 12 = ISE
            recover = -1
            get 1 = 10
            fail 0 = null
            put 2 20 = -9
            size 0 = 1
            recover = -1
            get 2 = NOT_THERE
            count 0 = 1
            put 2 20 = 1
            """);
    }

    private static void putWithPlan() {
        SCRIPTS.run("promise 2, put with a plan", """
            new 1 1
            put 0..3 7 = 1
            join 1 1 = 3
            # NEW: the source alone
            put 1 8 = 0
            holds 1 1 = false
            written false = 6
            step = 2
            # COPIED: the source and the target
            put 1 9 = 0
            written false = 9
            step = 3
            get 1 = 9
            # FLIPPED: the target alone
            put 1 10 = 0
            written false = 11
            get 1 = 10
            step = 4
            # GONE: likewise
            put 1 11 = 0
            written false = 13
            get 1 = 11
            holds 0 1 = false
            # a key that is not in the plan: its new owner
            put 5 1 = 1
            holds 1 5 = true
            holds 0 5 = false
            state 5 = 0
            put 0 2 = 0
            holds 0 0 = true
            # the power fails between the two writes
            new 1 1
            put 1 7 = 1
            join 1 1 = 1
            step = 2
            fail 1 = null
            put 1 8 = -9
            written false = 4
            off = true
            recover = 1
            state 1 = 1
            get 1 = 8
            step = 2 3
            get 1 = 8
            # before the first of them
            new 1 1
            put 1 7 = 1
            join 1 1 = 1
            step = 2
            fail 0 = null
            put 1 8 = -9
            recover = 1
            get 1 = 7
            # a key removed before it was copied comes back while it is COPIED
            new 1 1
            put 1 7 = 1
            join 1 1 = 1
            remove 1 = 1
            step = 2
            holds 0..1 1 = false
            put 1 9 = 1
            holds 0..1 1 = true
            written false = 6
            count 0 = 1
            # what a key has left in another store does not count among the 256
            new 1 1
            put 0..255 5 = 1
            join 1 1 = 216
            step = 2
            put 256 5 = ISE
            remove 0 = 1
            put 256 5 = 1
            put 0 5 = ISE
            step = 3
            put 0 5 = ISE
            remove 1 = 1
            holds 0 1 = true
            count 0 = 255
            put 0 5 = 1
            count 0 = 256
            """);
    }

    private static void remove() {
        SCRIPTS.run("promise 3, remove", """
            new 1 1
            remove 1 = 0
            written false = 0
            put 1 7 = 1
            put 2 8 = 1
            remove 1 = 1
            remove 1 = 0
            written false = 3
            get 1 = NOT_THERE
            get 2 = 8
            count 0 = 1
            remove -2147483648 = 0
            remove 2147483647 = 0
            # nothing is written, so nothing fails
            fail 0 = null
            remove 1 = 0
            off = false
            remove 2 = -9
            off = true
            remove 2 = ISE
            remove 1 = ISE
            holds 0 2 = true
            recover = -1
            get 2 = 8
            remove 2 = 1
            # with a plan: NEW the source, COPIED both, FLIPPED and GONE the owner
            new 1 1
            put 1..4 7 = 1
            join 1 1 = 4
            remove 1 = 1
            written false = 6
            step = 2
            written false = 7
            holds 0..1 1 = false
            remove 1 = 0
            written false = 7
            step = 3 4 2
            holds 0..1 2 = true
            remove 2 = 1
            written false = 12
            holds 0..1 2 = false
            step = 3 4 2 3
            remove 3 = 1
            holds 0 3 = true
            holds 1 3 = false
            written false = 17
            step = 4
            holds 0 3 = false
            step = 2 3 4
            remove 4 = 1
            step = 0
            count 0 = 0
            size 0..7 = 0
            # the power fails between the two writes: the source is without it, the target not
            new 1 1
            put 1 7 = 1
            join 1 1 = 1
            step = 2
            fail 1 = null
            remove 1 = -9
            holds 0 1 = false
            holds 1 1 = true
            recover = 1
            get 1 = NOT_THERE
            count 0 = 0
            remove 1 = 0
            step = 2
            holds 1 1 = false
            step = 3 4 0
            get 1 = NOT_THERE
            """);
    }

    private static void get() {
        SCRIPTS.run("promise 4, get", """
            new 2 1
            get 1 = NOT_THERE
            put 1 -5 = 1
            get 1 = -5
            get 2 = NOT_THERE
            get -2147483648 = NOT_THERE
            join 2 1 = 1
            get 1 = -5
            step = 2
            get 1 = -5
            # the target's store has it, but is not its home
            fail 0 = null
            step = -9
            get 1 = ISE
            get 2 = ISE
            recover = 1
            remove 1 = 1
            holds 2 1 = true
            get 1 = NOT_THERE
            # the source's store has it, but is its home no more
            put 1 6 = 1
            step = 2 3
            remove 1 = 1
            holds 1 1 = true
            get 1 = NOT_THERE
            put 1 8 = 1
            get 1 = 8
            step = 4 0
            get 1 = 8
            """);
    }

    private static void join() {
        SCRIPTS.run("promise 5, join", """
            new 1 1
            put 0..8 7 = 1
            join 0 1 = ISE
            join -1 1 = OUT
            join 8 1 = OUT
            join -2147483648 0 = OUT
            join 1 0 = IAE
            join 1 17 = IAE
            join 1 -2147483648 = IAE
            # the exception named first
            join 8 17 = OUT
            join 0 0 = IAE
            written false = 9
            join 1 1 = 7
            points 1 = 1
            written true = 1
            written false = 10
            state 0 = 0
            state 1..7 = 1
            state 8 = 0
            # nothing has moved
            size 0 = 9
            size 1 = 0
            # there is a plan
            join 2 1 = ISE
            join 1 1 = ISE
            join 2 17 = IAE
            join 9 17 = OUT
            # a plan of no keys
            new 1 1
            join 7 16 = 0
            count 1 = 0
            points 7 = 16
            join 6 1 = ISE
            step = 0
            join 7 1 = ISE
            join 6 1 = 0
            # keys that are not there are not in the plan, nor those whose owner stays
            new 2 1
            put 0..6 7 = 1
            remove 2 = 1
            join 2 1 = 4
            state 2 = 0
            state 3 = 0
            state 4..6 = 1
            state 1 = 1
            # the power fails
            new 1 1
            put 1 7 = 1
            fail 0 = null
            join 1 1 = -9
            off = true
            written true = 0
            join 1 1 = ISE
            join 0 1 = ISE
            join 1 0 = IAE
            join 8 1 = OUT
            recover = -1
            points 1 = 0
            count 1 = -1
            owner 1 = 0
            join 1 1 = 1
            """);
    }

    private static void leave() {
        SCRIPTS.run("promise 6, leave", """
            new 1 16
            leave 0 = ISE
            leave 1 = ISE
            leave -1 = OUT
            leave 8 = OUT
            leave 2147483647 = OUT
            written false = 0
            new 3 1
            put 0..8 7 = 1
            leave 3 = ISE
            leave 2 = 6
            points 2 = 0
            written true = 1
            size 2 = 6
            state 1..2 = 1
            state 3 = 0
            home 1 = 2
            owner 1 = 1
            leave 1 = ISE
            leave 2 = ISE
            leave 8 = OUT
            step = 2 3 4 2 3 4 2 3 4 2 3 4 2 3 4 2 3 4 0
            size 2 = 0
            size 1 = 7
            leave 2 = ISE
            leave 1 = 7
            step = 2 3 4 2 3 4 2 3 4 2 3 4 2 3 4 2 3 4 2 3 4 0
            size 0 = 9
            leave 0 = ISE
            leave 1 = ISE
            join 1 2 = 7
            # the power fails
            new 2 1
            put 1 7 = 1
            fail 0 = null
            leave 1 = -9
            leave 1 = ISE
            leave 8 = OUT
            recover = -1
            points 1 = 1
            count 1 = -1
            written true = 0
            leave 1 = 1
            points 1 = 0
            """);
    }

    private static void severalNodes() {
        SCRIPTS.run("promises 5 and 6, several sources or several targets", """
            new 3 4
            put 17 1 = 1
            put -12..-5 2 = 1
            put 3 3 = 1
            join 3 16 = 9
            home -12 = 1
            home -11..-9 = 0
            home -8..-7 = 1
            home -6 = 0
            home -5 = 2
            home 17 = 2
            home 3 = 1
            owner -12..-5 = 3
            # in ascending order, whichever store they are in
            step = 2 3 4
            state -12 = 4
            state -11 = 1
            step = 2 3 4
            state -11 = 4
            step = 2 3 4 2 3 4
            state -9 = 4
            state -8 = 1
            step = 2 3 4 2 3 4 2 3 4 2 3 4
            state -5 = 4
            state 17 = 1
            step = 2 3 4 0
            size 3 = 9
            size 0 = 0
            size 1 = 1
            size 2 = 0
            get -12..-5 = 2
            get 17 = 1
            new 3 4
            put 3..5 7 = 1
            put 11..13 8 = 1
            size 1 = 6
            leave 1 = 6
            step = 2 3 4 2 3 4 2 3 4 2 3 4 2 3 4 2 3 4 0
            size 1 = 0
            key 0 0 = 3
            key 0 1 = 5
            key 0 2 = 11
            key 0 3 = 13
            key 2 0 = 4
            key 2 1 = 12
            get 3..5 = 7
            get 11..13 = 8
            """);
    }

    private static void step() {
        SCRIPTS.run("promise 7, step", """
            new 1 1
            step = ISE
            put 1 7 = 1
            put 3 8 = 1
            put -3 9 = 1
            join 1 1 = 3
            # the least key first: -3
            step = 2
            state -3 = 2
            state 1 = 1
            state 3 = 1
            holds 0..1 -3 = true
            home -3 = 0
            written false = 5
            written true = 1
            step = 3
            state -3 = 3
            home -3 = 1
            holds 0..1 -3 = true
            written false = 6
            written true = 2
            step = 4
            state -3 = 4
            holds 0 -3 = false
            holds 1 -3 = true
            home -3 = 1
            written false = 7
            written true = 2
            step = 2
            state 1 = 2
            step = 3 4 2 3 4
            count 1 = 0
            get -3 = 9
            get 1 = 7
            get 3 = 8
            step = 0
            count 1 = -1
            state -3 = 0
            written true = 5
            written false = 14
            step = ISE ISE
            # a key that went while it was NEW is copied as nothing, by writes all the same
            new 1 1
            put 1 7 = 1
            join 1 1 = 1
            remove 1 = 1
            step = 2 3 4 0
            written false = 7
            written true = 3
            size 0..1 = 0
            # a value put while the key was NEW is the one that is copied
            new 1 1
            put 1 7 = 1
            join 1 1 = 1
            put 1 8 = 0
            step = 2 3
            get 1 = 8
            # a value put while it was FLIPPED stays
            put 1 9 = 0
            step = 4 0
            get 1 = 9
            """);
    }

    private static void stepFails() {
        SCRIPTS.run("promise 7, step, and the power fails", """
            new 1 1
            put 1 7 = 1
            put 2 8 = 1
            join 1 1 = 2
            fail 0 = null
            step = -9
            step = ISE
            holds 1 1 = false
            recover = 2
            step = 2
            fail 0 = null
            step = -9
            written true = 1
            recover = 2
            # COPIED was only known: it is copied again
            step = 2 3
            fail 0 = null
            step = -9
            holds 0 1 = true
            recover = 1
            state 1 = 3
            step = 4 2 3 4
            fail 0 = null
            step = -9
            recover = 0
            # GONE was only known: each is taken off again
            count 2 = 2
            step = 4 4 0
            written false = 13
            written true = 4
            # what the target kept of an old copy goes, if the source has nothing
            new 1 1
            put 1 7 = 1
            join 1 1 = 1
            step = 2
            fail 0 = null
            step = -9
            recover = 1
            remove 1 = 1
            holds 1 1 = true
            step = 2
            holds 1 1 = false
            """);
    }

    private static void fail() {
        SCRIPTS.run("promise 8, fail", """
            new 1 1
            fail -2 = IAE
            fail -2147483648 = IAE
            fail 2 = null
            off = false
            put 1 1 = 1
            put 2 2 = 1
            off = false
            get 1 = 1
            count 0 = 2
            put 3 3 = -9
            off = true
            fail 0 = ISE
            fail -1 = ISE
            fail -2 = IAE
            recover = -1
            # told once, it fails once
            put 3 3 = 1
            # told again, the newer holds; NONE: it doesn't
            fail 0 = null
            fail 1 = null
            put 4 4 = 1
            fail -1 = null
            put 5 5 = 1
            put 6 6 = 1
            fail 2147483647 = null
            put 7 7 = 1
            # a wrong n leaves what was told
            fail 0 = null
            fail -2 = IAE
            put 8 8 = -9
            recover = -1
            # records are writes as well
            fail 1 = null
            join 1 1 = 7
            step = -9
            """);
    }

    private static void recover() {
        SCRIPTS.run("promise 9, recover", """
            new 1 1
            recover = ISE
            fail 0 = null
            recover = ISE
            put 1 7 = -9
            recover = -1
            recover = ISE
            # nothing is told to fail then
            put 1..4 7 = 1
            join 1 1 = 4
            step = 2 3 4 2 3 4 2 3 4 2
            fail 0 = null
            step = -9
            # GONE again FLIPPED, COPIED again NEW
            recover = 1
            state 1..3 = 3
            state 4 = 1
            home 1..3 = 1
            home 4 = 0
            points 1 = 1
            count 1 = 4
            count 2 = 3
            get 1..4 = 7
            step = 4 4 4 2 3 4
            fail 0 = null
            step = -9
            recover = 0
            step = 4 4 4 4 0
            fail 0 = null
            put 1 7 = -9
            # the plan's end is in the log, and so are the members
            recover = -1
            points 0..1 = 1
            home 1 = 1
            state 1 = 0
            # a plan of no keys
            new 2 1
            leave 1 = 0
            fail 0 = null
            step = -9
            recover = 0
            count 1 = 0
            points 1 = 0
            step = 0
            """);
    }

    private static void off() {
        SCRIPTS.run("promise 10, off", """
            new 1 1
            off = false
            fail 0 = null
            off = false
            put 1 1 = -9
            off = true true
            recover = -1
            off = false
            """);
    }

    private static void place() {
        SCRIPTS.run("promise 11, place", """
            new 1 1
            place 0 = 0
            place 1 = 1327217884
            place -1 = 47583148
            place 1099511627776 = 52752509
            place -9223372036854775808 = 1049950250
            place 9223372036854775807 = 1097533398
            place 536870912 = 1729127582
            place -536870912 = 1269758608
            place 2147483647 = 593734546
            place -2147483648 = 641317694
            # also without power
            fail 0 = null
            put 1 1 = -9
            place 1 = 1327217884
            """);
    }

    private static void owner() {
        SCRIPTS.run("promise 12, owner", """
            new 8 1
            # a key just at a point, and one just above it
            owner -1411926866 = 7
            owner 870457473 = 3
            owner -1409926864 = 5
            owner 868457467 = 1
            # just at the highest point, and above it: the lowest of all
            owner -1408926857 = 4
            owner 867457462 = 0
            owner 8 = 0
            owner -1404930941 = 0
            owner -703522209 = 7
            owner 0 = 0
            owner -2147483648 = 7
            owner 2147483647 = 7
            new 8 16
            owner 0..5 = 5
            owner 6..9 = 2
            owner 255 = 6
            owner 2147483647 = 1
            # with a plan by the new members
            new 2 1
            put 1 7 = 1
            owner 1 = 1
            join 2 1 = 1
            owner 1 = 2
            owner 3 = 1
            step = 2 3 4 0
            leave 2 = 1
            owner 1 = 1
            fail 0 = null
            step = -9
            owner 1 = ISE
            recover = 1
            owner 1 = 1
            """);
    }

    private static void home() {
        SCRIPTS.run("promise 13, home", """
            new 1 1
            home 1 = 0
            put 1 7 = 1
            put 2 7 = 1
            join 1 1 = 2
            home 1..2 = 0
            # not in the plan: the owner
            home 3 = 1
            home 0 = 0
            step = 2
            home 1 = 0
            step = 3
            home 1 = 1
            home 2 = 0
            step = 4
            home 1 = 1
            step = 2 3 4 0
            home 1..2 = 1
            fail 0 = null
            put 1 1 = -9
            home 1 = ISE
            recover = -1
            home 1 = 1
            """);
    }

    private static void state() {
        SCRIPTS.run("promise 14, state", """
            new 1 1
            put 1..2 7 = 1
            state 1 = 0
            join 1 1 = 2
            state 0 = 0
            state 1..2 = 1
            state 3 = 0
            step = 2
            state 1 = 2
            step = 3
            state 1 = 3
            step = 4
            state 1 = 4
            state 2 = 1
            # a key put, or gone, since the plan was made changes nothing of it
            put 3 7 = 1
            state 3 = 0
            remove 2 = 1
            state 2 = 1
            fail 0 = null
            step = -9
            state 1 = ISE
            state 0 = ISE
            recover = 1
            state 1 = 3
            step = 4 2 3 4 0
            state 1..2 = 0
            """);
    }

    private static void holds() {
        SCRIPTS.run("promise 15, holds", """
            new 2 1
            holds 0..7 1 = false
            put 1 7 = 1
            holds 1 1 = true
            holds 0 1 = false
            holds 1 2 = false
            holds -1 1 = OUT
            holds 8 1 = OUT
            holds -2147483648 1 = OUT
            holds 2147483647 1 = OUT
            # a node that is no member has a store all the same
            leave 1 = 1
            holds 1 1 = true
            step = 2
            holds 0..1 1 = true
            fail 0 = null
            step = -9
            # also without power
            holds 0..1 1 = true
            holds 2..7 1 = false
            holds 8 1 = OUT
            """);
    }

    private static void size() {
        SCRIPTS.run("promise 16, size", """
            new 2 1
            put 0..8 7 = 1
            size 0 = 2
            size 1 = 7
            size 2..7 = 0
            size -1 = OUT
            size 8 = OUT
            size 2147483647 = OUT
            join 2 1 = 6
            step = 2
            size 1 = 7
            size 2 = 1
            step = 3
            size 1 = 7
            step = 4
            size 1 = 6
            remove 3 = 1
            fail 0 = null
            put 3 3 = -9
            size 0 = 2
            size 1 = 5
            size 2 = 1
            size 8 = OUT
            """);
    }

    private static void key() {
        SCRIPTS.run("promise 17, key", """
            new 1 1
            key 0 0 = OUT
            put 5 0 = 1
            put -5 0 = 1
            put 2147483647 0 = 1
            put 0 0 = 1
            put -2147483648 0 = 1
            key 0 0 = -2147483648
            key 0 1 = -5
            key 0 2 = 0
            key 0 3 = 5
            key 0 4 = 2147483647
            key 0 5 = OUT
            key 0 -1 = OUT
            key 0 -2147483648 = OUT
            key 0 2147483647 = OUT
            key 1 0 = OUT
            key -1 0 = OUT
            key 8 0 = OUT
            remove 0 = 1
            key 0 2 = 5
            key 0 4 = OUT
            # also without power
            fail 0 = null
            put 1 1 = -9
            key 0 3 = 2147483647
            key 0 4 = OUT
            key 8 0 = OUT
            """);
    }

    private static void points() {
        SCRIPTS.run("promise 18, points", """
            new 2 5
            points 0..1 = 5
            points 2..7 = 0
            points -1 = OUT
            points 8 = OUT
            join 7 16 = 0
            points 7 = 16
            step = 0
            points 7 = 16
            leave 0 = 0
            points 0 = 0
            points 1 = 5
            fail 0 = null
            step = -9
            points 0 = ISE
            points 2 = ISE
            points 8 = OUT
            points -1 = OUT
            recover = 0
            points 0 = 0
            points 1 = 5
            points 7 = 16
            """);
    }

    private static void count() {
        SCRIPTS.run("promise 19, count", """
            new 1 1
            count 0 = 0
            count 1..2 = -1
            count -1 = IAE
            count 3 = IAE
            count -2147483648 = IAE
            put 0..3 7 = 1
            count 0 = 4
            join 1 1 = 3
            count 0 = 4
            count 1 = 3
            count 2 = 0
            # a key in two stores is one key
            step = 2
            count 0 = 4
            count 1 = 3
            count 2 = 0
            step = 3
            count 0 = 4
            count 1 = 3
            count 2 = 1
            step = 4
            count 0 = 4
            count 1 = 2
            count 2 = 0
            remove 2 = 1
            count 0 = 3
            count 1 = 2
            step = 2 3 4 2 3
            fail 0 = null
            step = -9
            count 0..2 = ISE
            count 3 = IAE
            count -1 = IAE
            recover = 0
            count 0 = 3
            count 1 = 3
            count 2 = 3
            step = 4 4 4
            count 1 = 0
            count 2 = 0
            step = 0
            count 1..2 = -1
            """);
    }

    private static void written() {
        SCRIPTS.run("promise 20, written", """
            new 1 1
            written false = 0
            put 1 7 = 1
            put 1 7 = 0
            written false = 2
            written true = 0
            remove 2 = 0
            get 1 = 7
            join 0 1 = ISE
            written false = 2
            join 1 1 = 1
            written false = 3
            written true = 1
            step = 2
            written false = 4
            written true = 1
            step = 3
            written false = 5
            written true = 2
            step = 4
            written false = 6
            written true = 2
            fail 0 = null
            step = -9
            # also without power; what was not done does not count
            written false = 6
            written true = 2
            recover = 0
            written false = 6
            written true = 2
            step = 4 0
            written false = 8
            written true = 3
            """);
    }

    private static void share() {
        SCRIPTS.run("promise 21, share", """
            new 1 1
            share 0 = 2147483648
            share 1..7 = 0
            share -1 = OUT
            share 8 = OUT
            new 1 16
            share 0 = 2147483648
            share 1..7 = 0
            new 8 1
            share 0 = 205751429
            share 1 = 205751429
            share 2 = 205751428
            share 3 = 205751429
            share 4 = 131721630
            share 5 = 131721630
            share 6 = 131721630
            share 7 = 929313043
            # the node of the lowest point goes: the next one's places reach round
            leave 0 = 0
            share 0 = 0
            share 7 = 1135064472
            fail 0 = null
            step = -9
            share 7 = ISE
            share 0 = ISE
            share 8 = OUT
            recover = 0
            share 7 = 1135064472
            """);
    }

    private static void readme() {
        SCRIPTS.run("README.md, the example", """
            new 2 4
            put 7 70 = 1
            join 2 4 = 1
            count 1 = 1
            step = 2 3 4
            count 1 = 0
            step = 0
            count 1 = -1
            get 7 = 70
            fail 0 = null
            put 7 71 = -9
            off = true
            recover = -1
            get 7 = 70
            """);
    }
}
