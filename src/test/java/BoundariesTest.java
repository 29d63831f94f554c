/**
 * For each sentence of the promises 1 to 21 that names a boundary case a script of its own, which
 * bears the promise's number and the sentence as its name.
 *
 * With the members 0 and 1 of a point each, the keys -1, 0 and 8 belong to node 0 and 1 to 7 to
 * node 1; with node 2 of a point too, 1, 2 and 4 to 7 belong to that one.
 */
public final class BoundariesTest {
    private static final Scripts SCRIPTS = new Scripts("BoundariesTest");

    private BoundariesTest() { }

    public static void main(String[] args) {
        newObject();
        put();
        remove();
        get();
        join();
        leave();
        step();
        fail();
        recover();
        off();
        placeOwnerAndHome();
        state();
        stores();
        points();
        count();
        written();
        share();
        SCRIPTS.end();
    }

    private static void newObject() {
        run("1: so many nodes (the nearest of 1 .. 8)", """
            new -2147483648 2
            points 0 = 2
            points 1..7 = 0
            new -8 2
            points 0 = 2
            points 1..7 = 0
            new -1 2
            points 0 = 2
            points 1..7 = 0
            new 0 2
            points 0 = 2
            points 1..7 = 0
            new 1 2
            points 0 = 2
            points 1..7 = 0
            new 2 2
            points 0..1 = 2
            points 2..7 = 0
            new 7 2
            points 0..6 = 2
            points 7 = 0
            new 8 2
            points 0..7 = 2
            new 9 2
            points 0..7 = 2
            new 2147483647 2
            points 0..7 = 2
            """);
        run("1: so many points each (the nearest of 1 .. 16)", """
            new 2 -2147483648
            points 0..1 = 1
            new 2 -16
            points 0..1 = 1
            new 2 -1
            points 0..1 = 1
            new 2 0
            points 0..1 = 1
            new 2 1
            points 0..1 = 1
            new 2 2
            points 0..1 = 2
            new 2 15
            points 0..1 = 15
            new 2 16
            points 0..1 = 16
            new 2 17
            points 0..1 = 16
            new 2 2147483647
            points 0..1 = 16
            """);
        run("1: No key", """
            new 8 16
            count 0 = 0
            size 0..7 = 0
            key 0 0 = OUT
            get 0 = NOT_THERE
            remove 0 = 0
            holds 0..7 0 = false
            """);
        run("1: no plan", """
            new 8 16
            count 1..2 = -1
            step = ISE
            state 0 = 0
            leave 7 = 0
            """);
        run("1: an empty log", """
            new 8 16
            written true = 0
            written false = 0
            """);
        run("1: the power is on", """
            new 8 16
            off = false
            recover = ISE
            # and nothing is told to fail
            put 1..20 5 = 1
            off = false
            """);
    }

    private static void put() {
        run("2: 1 if it was not there, 0 if it was; FAILED", """
            new 1 1
            put 1 7 = 1
            put 1 7 = 0
            put 1 8 = 0
            remove 1 = 1
            put 1 8 = 1
            fail 0 = null
            put 1 9 = -9
            recover = -1
            fail 0 = null
            put 2 9 = -9
            """);
        run("2: the power is off", """
            new 1 1
            put 1 7 = 1
            fail 0 = null
            put 1 8 = -9
            put 1 9 = ISE
            put 2 9 = ISE
            recover = -1
            get 1 = 7
            get 2 = NOT_THERE
            """);
        run("2: 256 other keys are there", """
            new 2 1
            put 0..254 5 = 1
            # 255 others
            put 1000 5 = 1
            count 0 = 256
            # 256 others
            put 1001 5 = ISE
            put -2147483648 5 = ISE
            get 1001 = NOT_THERE
            holds 0..1 1001 = false
            count 0 = 256
            written false = 256
            # 255 others, as it is there itself
            put 0 6 = 0
            put 1000 6 = 0
            get 1000 = 6
            # 255 others again
            remove 3 = 1
            put 1001 5 = 1
            put 3 5 = ISE
            count 0 = 256
            """);
        run("2: 256 other keys are there (no write is tried)", """
            new 2 1
            put 0..255 5 = 1
            fail 0 = null
            put 256 5 = ISE
            off = false
            put 255 6 = -9
            off = true
            """);
        run("2: 256 other keys are there (those in two stores count once)", """
            new 1 1
            put 0..255 5 = 1
            join 1 1 = 216
            step = 2
            size 0 = 256
            size 1 = 1
            remove 0 = 1
            put 300 5 = 1
            put 301 5 = ISE
            step = 3
            remove 1 = 1
            holds 0 1 = true
            put 301 5 = 1
            put 1 5 = ISE
            count 0 = 256
            """);
    }

    private static void remove() {
        run("3: 1 if it was there", """
            new 1 1
            put 1 7 = 1
            remove 1 = 1
            written false = 2
            count 0 = 0
            """);
        run("3: 0 if not (nothing is written then)", """
            new 1 1
            remove 1 = 0
            remove -2147483648 = 0
            written false = 0
            # so no power fails
            fail 0 = null
            remove 1 = 0
            off = false
            fail -1 = null
            put 1 7 = 1
            join 1 1 = 1
            remove 1 = 1
            remove 1 = 0
            written false = 3
            # neither if it is COPIED as nothing, FLIPPED or GONE
            step = 2
            remove 1 = 0
            written false = 4
            step = 3
            remove 1 = 0
            step = 4
            remove 1 = 0
            written false = 6
            """);
        run("3: FAILED", """
            new 1 1
            put 1 7 = 1
            fail 0 = null
            remove 1 = -9
            """);
        run("3: the power is off", """
            new 1 1
            put 1 7 = 1
            fail 0 = null
            remove 1 = -9
            remove 1 = ISE
            remove 2 = ISE
            recover = -1
            get 1 = 7
            """);
    }

    private static void get() {
        run("4: The value of a key, as its home has it", """
            new 1 1
            put 1 7 = 1
            join 1 1 = 1
            step = 2
            fail 1 = null
            put 1 8 = -9
            recover = 1
            # the source's store has 8, the target's 7
            get 1 = 8
            step = 2 3
            put 1 9 = 0
            # the target's store has 9, the source's 8
            get 1 = 9
            step = 4 0
            get 1 = 9
            """);
        run("4: the power is off", """
            new 1 1
            put 1 7 = 1
            fail 0 = null
            put 1 8 = -9
            get 1 = ISE
            # named first
            get 2 = ISE
            """);
        run("4: NoSuchElementException: the key is not there", """
            new 1 1
            get 0 = NOT_THERE
            get -2147483648 = NOT_THERE
            get 2147483647 = NOT_THERE
            put 1 7 = 1
            get 0 = NOT_THERE
            get 2 = NOT_THERE
            remove 1 = 1
            get 1 = NOT_THERE
            """);
    }

    private static void join() {
        run("5: how many keys the plan has", """
            new 1 1
            put 8 7 = 1
            join 1 1 = 0
            step = 0
            put 1..7 7 = 1
            join 2 1 = 6
            """);
        run("5: FAILED", """
            new 1 1
            put 1 7 = 1
            fail 0 = null
            join 1 1 = -9
            """);
        run("5: IndexOutOfBoundsException", """
            new 1 1
            join -2147483648 1 = OUT
            join -1 1 = OUT
            join 8 1 = OUT
            join 2147483647 1 = OUT
            join 7 1 = 0
            """);
        run("5: points are not 1 .. 16", """
            new 1 1
            join 1 -2147483648 = IAE
            join 1 -1 = IAE
            join 1 0 = IAE
            join 1 17 = IAE
            join 1 2147483647 = IAE
            join 1 1 = 0
            step = 0
            join 2 16 = 0
            """);
        run("5: the power is off", """
            new 1 1
            fail 0 = null
            put 1 7 = -9
            join 1 1 = ISE
            join 0 1 = ISE
            recover = -1
            points 1 = 0
            """);
        run("5: there is a plan", """
            new 1 1
            # of no keys, too
            join 1 1 = 0
            join 2 1 = ISE
            points 2 = 0
            step = 0
            join 2 1 = 0
            step = 0
            put 1 7 = 1
            leave 2 = 1
            join 2 1 = ISE
            step = 2
            join 2 1 = ISE
            step = 3
            join 2 1 = ISE
            step = 4
            # all are GONE, but there is a plan yet
            join 2 1 = ISE
            step = 0
            join 2 1 = 1
            """);
        run("5: or it is one", """
            new 2 3
            join 0 3 = ISE
            join 1 1 = ISE
            join 1 16 = ISE
            points 0..1 = 3
            written false = 0
            join 2 3 = 0
            join 2 3 = ISE
            step = 0
            join 2 3 = ISE
            leave 2 = 0
            step = 0
            join 2 5 = 0
            points 2 = 5
            """);
    }

    private static void leave() {
        run("6: how many keys the plan has", """
            new 3 1
            put 0..8 7 = 1
            leave 0 = 2
            step = 2 3 4 2 3 4 0
            leave 2 = 8
            """);
        run("6: FAILED", """
            new 2 1
            put 1 7 = 1
            fail 0 = null
            leave 1 = -9
            """);
        run("6: IndexOutOfBoundsException", """
            new 8 1
            leave -2147483648 = OUT
            leave -1 = OUT
            leave 8 = OUT
            leave 2147483647 = OUT
            leave 7 = 0
            """);
        run("6: the power is off", """
            new 2 1
            fail 0 = null
            put 1 7 = -9
            leave 1 = ISE
            leave 2 = ISE
            recover = -1
            points 1 = 1
            """);
        run("6: there is a plan", """
            new 3 1
            leave 2 = 0
            leave 1 = ISE
            points 1 = 1
            step = 0
            put 1 7 = 1
            join 2 1 = 1
            leave 2 = ISE
            step = 2
            leave 2 = ISE
            step = 3
            leave 2 = ISE
            step = 4
            leave 2 = ISE
            step = 0
            leave 2 = 1
            """);
        run("6: it is no member", """
            new 3 1
            leave 3 = ISE
            leave 7 = ISE
            written false = 0
            leave 2 = 0
            step = 0
            leave 2 = ISE
            """);
        run("6: or the only one", """
            new 1 16
            leave 0 = ISE
            points 0 = 16
            written false = 0
            join 1 1 = 0
            step = 0
            # one of two is not the only one
            leave 0 = 0
            step = 0
            leave 1 = ISE
            points 1 = 1
            """);
    }

    private static void step() {
        run("7: what the key is then (COPIED, FLIPPED, GONE), or OTHER when the plan ended", """
            new 1 1
            put 1..2 7 = 1
            join 1 1 = 2
            step = 2 3 4 2 3 4 0
            # a plan of no keys ends at once
            leave 0 = 0
            step = 0
            """);
        run("7: FAILED", """
            new 1 1
            join 1 1 = 0
            fail 0 = null
            step = -9
            """);
        run("7: the power is off", """
            new 1 1
            join 1 1 = 0
            fail 0 = null
            step = -9
            step = ISE
            recover = 0
            step = 0
            """);
        run("7: or there is no plan", """
            new 1 1
            step = ISE
            written false = 0
            join 1 1 = 0
            step = 0
            step = ISE
            written true = 2
            # a join that failed has made none
            fail 0 = null
            join 2 1 = -9
            recover = -1
            step = ISE
            """);
    }

    private static void fail() {
        run("8: So many writes more are done, then the POWER FAILS", """
            new 1 1
            fail 0 = null
            off = false
            put 1 1 = -9
            recover = -1
            fail 1 = null
            put 1 1 = 1
            off = false
            put 2 2 = -9
            recover = -1
            fail 3 = null
            put 2 2 = 1
            remove 7 = 0
            join 1 1 = 2
            step = 2
            # calls that do not write go on
            off = false
            get 1 = 1
            count 0 = 2
            step = -9
            off = true
            recover = 2
            # told again, more or fewer: the newer number holds
            fail 0 = null
            fail 2 = null
            put 3 3 = 1
            fail 0 = null
            put 4 4 = -9
            recover = 2
            # the greatest number
            fail 2147483647 = null
            put 3 3 = 0
            put 4 4 = 1
            off = false
            """);
        run("8: (NONE: it doesn't)", """
            new 1 1
            fail -1 = null
            put 1 1 = 1
            put 2 2 = 1
            # also if it was told to before
            fail 0 = null
            fail -1 = null
            put 3 3 = 1
            fail 1 = null
            put 4 4 = 1
            fail -1 = null
            put 5 5 = 1
            put 6 6 = 1
            off = false
            """);
        run("8: n is below -1", """
            new 1 1
            fail -2 = IAE
            fail -2147483648 = IAE
            put 1 1 = 1
            # what was told stays told
            fail 1 = null
            fail -2 = IAE
            put 2 2 = 1
            put 3 3 = -9
            """);
        run("8: the power is off", """
            new 1 1
            fail 0 = null
            put 1 1 = -9
            fail 0 = ISE
            fail -1 = ISE
            fail 5 = ISE
            recover = -1
            put 1 1 = 1
            """);
    }

    private static void recover() {
        run("9: (nothing is told to fail then)", """
            new 1 1
            fail 0 = null
            put 1 1 = -9
            recover = -1
            put 1 1 = 1
            put 2 2 = 1
            off = false
            """);
        run("9: how many keys of the plan are NEW", """
            new 1 1
            put 1..3 7 = 1
            join 1 1 = 3
            fail 0 = null
            step = -9
            recover = 3
            # COPIED counts as NEW, since that is lost
            step = 2
            fail 0 = null
            step = -9
            recover = 3
            step = 2 3
            fail 0 = null
            step = -9
            recover = 2
            step = 4 2 3 4 2 3
            fail 0 = null
            step = -9
            # none of them: 0, not NONE
            recover = 0
            step = 4 4 4 0
            leave 0 = 0
            fail 0 = null
            step = -9
            # a plan of no keys
            recover = 0
            """);
        run("9: NONE without one", """
            new 1 1
            fail 0 = null
            put 1 1 = -9
            recover = -1
            fail 0 = null
            join 1 1 = -9
            recover = -1
            join 1 1 = 0
            step = 0
            fail 0 = null
            put 1 1 = -9
            recover = -1
            """);
        run("9: the power is on", """
            new 1 1
            recover = ISE
            put 1..2 7 = 1
            join 1 1 = 2
            step = 2 3 4 2
            recover = ISE
            # nothing is lost, and what was told stays told
            state 1 = 4
            state 2 = 2
            fail 0 = null
            recover = ISE
            step = -9
            recover = 1
            recover = ISE
            """);
    }

    private static void off() {
        run("10: Whether the power is off", """
            new 1 1
            off = false
            fail 1 = null
            off = false
            put 1 1 = 1
            # all the writes told are done, but none has been tried behind them
            off = false
            get 1 = 1
            remove 2 = 0
            off = false
            put 1 2 = -9
            off = true
            off = true
            recover = -1
            off = false
            """);
    }

    private static void placeOwnerAndHome() {
        run("11: place, also without power", """
            new 1 1
            fail 0 = null
            put 1 1 = -9
            place 1 = 1327217884
            place -1 = 47583148
            """);
        run("12: the power is off", """
            new 1 1
            fail 0 = null
            put 1 1 = -9
            owner 1 = ISE
            owner -2147483648 = ISE
            recover = -1
            owner 1 = 0
            """);
        run("13: the power is off", """
            new 1 1
            put 1 1 = 1
            join 1 1 = 1
            fail 0 = null
            step = -9
            home 1 = ISE
            home 0 = ISE
            recover = 1
            home 1 = 0
            """);
    }

    private static void state() {
        run("14: OTHER if it is not in the plan", """
            new 1 1
            put 0..2 7 = 1
            # without a plan none is
            state 1 = 0
            join 1 1 = 2
            # there, but its owner stays; not there; the least and the greatest
            state 0 = 0
            state 3 = 0
            state -2147483648 = 0
            state 2147483647 = 0
            state 1..2 = 1
            step = 2 3 4 2 3 4 0
            # the plan that was
            state 1..2 = 0
            # the next plan is another one
            put 3 7 = 1
            remove 1 = 1
            leave 1 = 2
            state 1 = 0
            state 2..3 = 1
            """);
        run("14: the power is off", """
            new 1 1
            put 1 1 = 1
            join 1 1 = 1
            fail 0 = null
            step = -9
            state 1 = ISE
            state 0 = ISE
            recover = 1
            state 1 = 1
            """);
    }

    private static void stores() {
        run("15: Whether a node's store has a key (also without power)", """
            new 2 1
            put 1 7 = 1
            join 2 1 = 1
            step = 2
            fail 0 = null
            step = -9
            holds 0 1 = false
            holds 1..2 1 = true
            holds 3..7 1 = false
            holds 1..2 2 = false
            """);
        run("15, 16, 17: the store of a node that is no member", """
            new 2 1
            put 1 7 = 1
            leave 1 = 1
            points 1 = 0
            holds 1 1 = true
            size 1 = 1
            key 1 0 = 1
            fail 0 = null
            step = -9
            holds 1 1 = true
            size 1 = 1
            key 1 0 = 1
            """);
        run("15: IndexOutOfBoundsException", """
            new 8 1
            holds -2147483648 1 = OUT
            holds -1 1 = OUT
            holds 8 1 = OUT
            holds 2147483647 1 = OUT
            fail 0 = null
            put 1 7 = -9
            holds -1 1 = OUT
            holds 8 1 = OUT
            """);
        run("16: How many keys a node's store has (also without power)", """
            new 2 1
            put 0..8 7 = 1
            join 2 1 = 6
            step = 2
            fail 0 = null
            step = -9
            size 0 = 2
            size 1 = 7
            size 2 = 1
            size 3..7 = 0
            """);
        run("16: full", """
            new 1 1
            put 0..255 7 = 1
            size 0 = 256
            """);
        run("16: IndexOutOfBoundsException", """
            new 8 1
            size -2147483648 = OUT
            size -1 = OUT
            size 8 = OUT
            size 2147483647 = OUT
            fail 0 = null
            put 1 7 = -9
            size -1 = OUT
            size 8 = OUT
            """);
        run("17: The i-th key in a node's store, in ascending order", """
            new 1 1
            put 3 0 = 1
            put 2147483647 0 = 1
            put -1 0 = 1
            put -2147483648 0 = 1
            put 0 0 = 1
            key 0 0 = -2147483648
            key 0 1 = -1
            key 0 2 = 0
            key 0 3 = 3
            key 0 4 = 2147483647
            # also what is there no more, and without power
            join 1 1 = 3
            step = 2 3
            remove -2147483648 = 1
            fail 0 = null
            step = -9
            key 0 0 = -2147483648
            key 0 4 = 2147483647
            key 1 0 = OUT
            """);
        run("17: full", """
            new 1 1
            put -128..127 7 = 1
            key 0 0 = -128
            key 0 128 = 0
            key 0 255 = 127
            key 0 256 = OUT
            """);
        run("17: no such node, or it has not so many", """
            new 1 1
            key 0 0 = OUT
            key 0 -1 = OUT
            put 5 7 = 1
            put 6 7 = 1
            key 0 0 = 5
            key 0 1 = 6
            key 0 2 = OUT
            key 0 -1 = OUT
            key 0 -2147483648 = OUT
            key 0 2147483647 = OUT
            key 1 0 = OUT
            key 7 0 = OUT
            key -1 0 = OUT
            key 8 0 = OUT
            key -2147483648 0 = OUT
            key 2147483647 0 = OUT
            key 8 -1 = OUT
            remove 5 = 1
            key 0 0 = 6
            key 0 1 = OUT
            """);
    }

    private static void points() {
        run("18: 0 if it is no member", """
            new 2 4
            points 0..1 = 4
            points 2..7 = 0
            leave 0 = 0
            points 0 = 0
            step = 0
            points 0 = 0
            join 0 7 = 0
            points 0 = 7
            """);
        run("18: IndexOutOfBoundsException", """
            new 8 16
            points -2147483648 = OUT
            points -1 = OUT
            points 8 = OUT
            points 2147483647 = OUT
            points 0 = 16
            points 7 = 16
            """);
        run("18: the power is off", """
            new 2 4
            fail 0 = null
            put 1 1 = -9
            points 0 = ISE
            points 7 = ISE
            # named first
            points 8 = OUT
            points -1 = OUT
            """);
    }

    private static void count() {
        run("19: How many keys are there (what = 0)", """
            new 1 1
            count 0 = 0
            put 0..255 5 = 1
            count 0 = 256
            remove 0 = 1
            count 0 = 255
            join 1 1 = 216
            count 0 = 255
            step = 2
            count 0 = 255
            step = 3
            count 0 = 255
            step = 4
            count 0 = 255
            remove 1..3 = 1
            count 0 = 252
            """);
        run("19: keys of the plan that are not GONE (1; NONE without a plan)", """
            new 1 1
            count 1 = -1
            put 1..2 7 = 1
            count 1 = -1
            join 1 1 = 2
            count 1 = 2
            step = 2
            count 1 = 2
            step = 3
            count 1 = 2
            step = 4
            count 1 = 1
            # a key that went counts on
            remove 2 = 1
            count 1 = 1
            step = 2 3 4
            count 1 = 0
            step = 0
            count 1 = -1
            # a plan of no keys is one
            leave 0 = 0
            count 1 = 0
            """);
        run("19: of these FLIPPED (2; NONE)", """
            new 1 1
            count 2 = -1
            put 1..2 7 = 1
            join 1 1 = 2
            count 2 = 0
            step = 2
            count 2 = 0
            step = 3
            count 2 = 1
            step = 4
            count 2 = 0
            step = 2 3
            fail 0 = null
            step = -9
            recover = 0
            count 2 = 2
            step = 4
            count 2 = 1
            step = 4
            count 2 = 0
            step = 0
            count 2 = -1
            """);
        run("19: another what", """
            new 1 1
            count -2147483648 = IAE
            count -1 = IAE
            count 3 = IAE
            count 2147483647 = IAE
            join 1 1 = 0
            count -1 = IAE
            count 3 = IAE
            count 0..2 = 0
            """);
        run("19: the power is off", """
            new 1 1
            join 1 1 = 0
            fail 0 = null
            step = -9
            count 0..2 = ISE
            # named first
            count -1 = IAE
            count 3 = IAE
            recover = 0
            count 0..2 = 0
            """);
    }

    private static void written() {
        run("20: How many writes were done", """
            new 1 1
            written false = 0
            put 1 7 = 1
            written false = 1
            # the value that it has already is written too
            put 1 7 = 0
            written false = 2
            remove 2 = 0
            get 1 = 7
            step = ISE
            written false = 2
            # a record is one
            join 1 1 = 1
            written false = 3
            step = 2 3 4 0
            written false = 7
            remove 1 = 1
            written false = 8
            """);
        run("20: or records are in the log", """
            new 1 1
            written true = 0
            put 1 7 = 1
            written true = 0
            join 1 1 = 1
            written true = 1
            step = 2
            written true = 1
            step = 3
            written true = 2
            step = 4
            written true = 2
            step = 0
            written true = 3
            remove 1 = 1
            written true = 3
            """);
        run("20: (also without power)", """
            new 1 1
            put 1 7 = 1
            join 1 1 = 1
            fail 1 = null
            step = 2 -9
            written false = 3
            written true = 1
            recover = 1
            written false = 3
            written true = 1
            """);
    }

    private static void share() {
        run("21: The number of places, of all 2147483648, whose owner a node is", """
            new 1 1
            share 0 = 2147483648
            share 1..7 = 0
            new 1 16
            share 0 = 2147483648
            # points at 52752509 and 1862763098: those above the second and up to the first are 0's
            new 2 1
            share 0 = 337473059
            share 1 = 1810010589
            leave 0 = 0
            share 0 = 0
            share 1 = 2147483648
            """);
        SCRIPTS.check("21: of all 2147483648: the shares of all nodes together", sharesAreAll());
        run("21: IndexOutOfBoundsException", """
            new 8 16
            share -2147483648 = OUT
            share -1 = OUT
            share 8 = OUT
            share 2147483647 = OUT
            """);
        run("21: the power is off", """
            new 2 1
            fail 0 = null
            put 1 1 = -9
            share 0 = ISE
            share 7 = ISE
            # named first
            share 8 = OUT
            share -1 = OUT
            recover = -1
            share 0 = 337473059
            """);
    }

    private static boolean sharesAreAll() {
        for (int nodes = 1; nodes <= 8; nodes++) {
            for (int points = 1; points <= 16; points++) {
                ShardRing ring = new ShardRing(nodes, points);
                long sum = 0;
                for (int node = 0; node < 8; node++) {
                    sum += ring.share(node);
                }
                if (sum != 2147483648L) {
                    return false;
                }
            }
        }
        return true;
    }

    private static void run(String sentence, String text) {
        SCRIPTS.run(sentence, text);
    }
}
