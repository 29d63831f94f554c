import java.util.HashSet;
import java.util.Set;

/**
 * For each sentence of the document's Terms, and of what stands before them, that names a boundary
 * case, a script of its own, which bears the sentence as its name.
 *
 * With the members 0 and 1 of a point each, the keys -1, 0 and 8 belong to node 0 and 1 to 7 to
 * node 1; with node 2 of a point too, 1, 2 and 4 to 7 belong to that one. A key just at a point,
 * or one beside it, was found by trying all ints.
 */
public final class TermsTest {
    private static final Scripts SCRIPTS = new Scripts("TermsTest");

    private TermsTest() { }

    public static void main(String[] args) {
        callsOfAnObject();
        places();
        nodesAndPoints();
        owners();
        keysAndValues();
        stores();
        fullestStores();
        plans();
        homes();
        writes();
        writesOfSteps();
        powerFailures();
        recoveries();
        SCRIPTS.end();
    }

    private static void callsOfAnObject() {
        run("An object is used for at most 512 calls (a record by each)", """
            new 1 1
            """ + """
            join 1 1 = 0
            step = 0
            leave 1 = 0
            step = 0
            """.repeat(127) + """
            written true = 508
            written false = 508
            join 7 16 = 0
            step = 0
            """);
        run("An object is used for at most 512 calls (256 keys, and then steps)", """
            new 1 1
            put 0..255 7 = 1
            join 1 1 = 216
            """ + "step = 2 3 4\n".repeat(85));
        run("An object is used for at most 512 calls (puts and removes)", """
            new 1 1
            """ + """
            put 1 5 = 1
            remove 1 = 1
            """.repeat(255) + """
            written false = 510
            put 1 5 = 1
            """);
    }

    private static void places() {
        run("PLACES are 0 .. 2147483647", """
            new 1 1
            place 0 = 0
            place 4652326830287329296 = 0
            place 3634095367763997660 = 1
            place -8205140594582655981 = 1073741823
            place -9223372019674906592 = 1073741824
            place 1018231459451989043 = 2147483647
            """);
        run("x shifted down by 29 without sign", """
            new 1 1
            place -1 = 47583148
            place -536870912 = 1269758608
            place -536870913 = 1776710730
            place -9223372036854775808 = 1049950250
            # behind the shift the first is 0, the second 1
            place 536870911 = 1222175460
            place 536870912 = 1729127582
            place 9223372036854775807 = 1097533398
            """);
        run("(or an int, as a long)", """
            new 8 1
            # as numbers without sign these would be of the nodes 3, 7, 1, 7, 2 and 1
            owner -1 = 0
            owner -2 = 2
            owner -3 = 7
            owner -4 = 4
            owner -6 = 7
            owner -2147483647 = 4
            """);
    }

    private static void nodesAndPoints() {
        run("NODES are 0 .. 7", """
            new 1 1
            put 2 7 = 1
            join -1 1 = OUT
            join 8 1 = OUT
            leave -1 = OUT
            leave 8 = OUT
            holds -1 2 = OUT
            holds 8 2 = OUT
            size -1 = OUT
            size 8 = OUT
            key -1 0 = OUT
            key 8 0 = OUT
            points -1 = OUT
            points 8 = OUT
            share -1 = OUT
            share 8 = OUT
            holds 0 2 = true
            holds 7 2 = false
            size 0 = 1
            size 7 = 0
            key 0 0 = 2
            points 0 = 1
            points 7 = 0
            share 0 = 2147483648
            share 7 = 0
            join 7 1 = 1
            step = 2 3 4 0
            leave 7 = 1
            step = 2 3 4 0
            join 7 1 = 1
            step = 2 3 4 0
            leave 0 = 0
            step = 0
            join 0 1 = 0
            """);
        run("a MEMBER has 1 .. 16 POINTS", """
            new 1 1
            join 1 0 = IAE
            join 1 17 = IAE
            join 1 1 = 0
            points 1 = 1
            step = 0
            join 2 16 = 0
            points 2 = 16
            step = 0
            join 3 2 = 0
            points 3 = 2
            """);
        run("the place of point v (0, 1, ..) of node n", """
            new 8 16
            # just at v = 0 and v = 15 of the nodes 0 and 7, and just above
            owner -1404930941 = 0
            owner -703522209 = 3
            owner -1404930960 = 0
            owner -703522226 = 7
            owner -1411926866 = 7
            owner 870457473 = 6
            owner -1411926881 = 7
            owner 870457486 = 0
            # without v = 15 the place belongs to the next point above
            new 8 15
            owner -1404930960 = 7
            owner -1411926881 = 0
            new 7 16
            owner -1411926881 = 0
            join 7 15 = 0
            owner -1411926881 = 0
            """);
    }

    private static void owners() {
        run("The OWNER of a key is the node of the least point not below the key's place", """
            new 8 16
            # just below a point of node 7, just at it, just above
            owner -2113335613 = 7
            owner -1411926881 = 7
            owner 870457486 = 0
            # just below the lowest point of all, just at it, just above
            owner 1569866203 = 5
            owner -1409926862 = 5
            owner 868457469 = 4
            # at the least place of all
            owner 0 = 5
            """);
        run("or, if there is none, of the least point of all", """
            new 8 16
            # just below the highest point of all, just at it: not yet
            owner 1566870303 = 2
            owner 865461569 = 2
            # just above it, and at the highest place of all
            owner -705522232 = 5
            owner 1836311900 = 5
            owner -541469395 = 5
            # a ring of one point
            new 1 1
            owner -703522209 = 0
            owner -1404930941 = 0
            owner 1836311900 = 0
            owner 0 = 0
            # the lowest point changes with the members
            new 2 1
            owner 1836311900 = 0
            leave 0 = 0
            owner 1836311900 = 1
            """);
        Set<Integer> pointPlaces = new HashSet<>();
        ShardRing any = new ShardRing(1, 1);
        for (int node = 0; node < 8; node++) {
            for (int v = 0; v < 16; v++) {
                pointPlaces.add(any.place(1000003L * node + v + (1L << 40)));
            }
        }
        // Were there two points at one place, a script could ask for the least node.
        SCRIPTS.check("(of several at the same place, of the least node): there are none", pointPlaces.size() == 128);
    }

    private static void keysAndValues() {
        run("KEYS and values are ints", """
            new 1 1
            put -2147483648 2147483647 = 1
            put 2147483647 -2147483648 = 1
            put -1 -9 = 1
            put 0 -1 = 1
            get -2147483648 = 2147483647
            get 2147483647 = -2147483648
            # values that are constants too
            get -1 = -9
            get 0 = -1
            holds 0 -2147483648 = true
            holds 0 2147483647 = true
            key 0 0 = -2147483648
            key 0 1 = -1
            key 0 2 = 0
            key 0 3 = 2147483647
            # the least and the greatest key move
            join 1 1 = 2
            state -2147483648 = 1
            state 2147483647 = 1
            step = 2 3 4
            state -2147483648 = 4
            step = 2 3 4 0
            get -2147483648 = 2147483647
            get 2147483647 = -2147483648
            remove -2147483648 = 1
            remove 2147483647 = 1
            get -2147483648 = NOT_THERE
            get 2147483647 = NOT_THERE
            """);
    }

    private static void stores() {
        run("Each node has a STORE", """
            new 2 1
            put 8 80 = 1
            put 1 10 = 1
            put 3 30 = 1
            size 0 = 1
            size 1 = 2
            size 2..7 = 0
            holds 0 8 = true
            holds 1..7 8 = false
            holds 0 1 = false
            holds 1 1 = true
            holds 2..7 1 = false
            """);
        run("a value for each key that is in it", """
            new 1 1
            put 5 50 = 1
            put 1 10 = 1
            put 9 90 = 1
            put 3 30 = 1
            put 7 70 = 1
            get 1 = 10
            get 3 = 30
            get 5 = 50
            get 7 = 70
            get 9 = 90
            """);
        run("A WRITE makes one key's value in one store another one (or takes it off)", """
            new 1 1
            put 5 50 = 1
            put 1 10 = 1
            put 9 90 = 1
            put 5 51 = 0
            get 1 = 10
            get 5 = 51
            get 9 = 90
            remove 5 = 1
            get 1 = 10
            get 9 = 90
            # the others' values stay while keys move too
            put 2 20 = 1
            put 3 30 = 1
            put 8 80 = 1
            join 1 1 = 4
            """ + """
            step = 2 3 4
            get 1 = 10
            get 2 = 20
            get 3 = 30
            get 8 = 80
            get 9 = 90
            """.repeat(4) + """
            step = 0
            get 1 = 10
            get 2 = 20
            get 3 = 30
            get 8 = 80
            get 9 = 90
            """);
    }

    // One key more than can be there: an older value that no home tells of stands beside them.
    private static void fullestStores() {
        String keys = putsOf(0, 255);
        String greatest = keys.lines().toList().get(254).split(" ")[1];
        run("the fullest store: 256 keys that are there, and one still to be taken off", "new 1 1\n" + keys + """
            put 1 10 = 1
            join 1 1 = 1
            step = 2 3
            remove 1 = 1
            put -1 11 = 1
            put -2 12 = ISE
            count 0 = 256
            size 0 = 257
            key 0 0 = -1
            key 0 1 = 0
            key 0 2 = 1
            key 0 257 = OUT
            get 1 = NOT_THERE
            get -1 = 11
            """ + "key 0 256 = " + greatest + "\n" + getsOf(keys, 200) + """
            step = 4
            size 0 = 256
            key 0 2 = 8
            step = 0
            """);
        run("the fullest store: 256 keys that are there, and one lost copy", "new 2 1\n" + keys + """
            put 1 10 = 1
            leave 1 = 1
            step = 2
            fail 0 = null
            step = -9
            recover = 1
            remove 1 = 1
            put -1 11 = 1
            count 0 = 256
            size 0 = 257
            key 0 2 = 1
            key 0 257 = OUT
            get 1 = NOT_THERE
            """ + "key 0 256 = " + greatest + "\n" + getsOf(keys, 200) + """
            step = 2
            size 0 = 256
            key 0 2 = 8
            step = 3 4 0
            """);
    }

    private static void plans() {
        run("a row of keys, in ascending order", """
            new 1 1
            put 2 7 = 1
            put -3 7 = 1
            put 2147483647 7 = 1
            put -2147483648 7 = 1
            put 1 7 = 1
            join 1 1 = 5
            step = 2 3 4
            state -2147483648 = 4
            state -3 = 1
            step = 2 3 4
            state -3 = 4
            state 1 = 1
            step = 2 3 4
            state 1 = 4
            state 2 = 1
            step = 2 3 4
            state 2 = 4
            state 2147483647 = 1
            step = 2 3 4
            state 2147483647 = 4
            """);
        run("each with a SOURCE (one target, and the higher node's keys before the lower one's)", """
            new 3 2
            put 12 120 = 1
            put 14 140 = 1
            put 2 20 = 1
            put 5 50 = 1
            join 7 9 = 4
            home 2 = 2
            home 5 = 2
            home 12 = 1
            home 14 = 2
            owner 12 = 7
            get 2 = 20
            get 5 = 50
            get 12 = 120
            get 14 = 140
            step = 2 3 4 2 3 4
            size 2 = 1
            size 1 = 1
            step = 2 3 4
            size 2 = 1
            size 1 = 0
            step = 2 3 4 0
            size 0..2 = 0
            size 7 = 4
            """);
        run("each with a TARGET (one source)", """
            new 4 3
            put 3 30 = 1
            put 4 40 = 1
            put 5 50 = 1
            put 11 110 = 1
            leave 1 = 4
            home 3..5 = 1
            owner 3 = 2
            owner 4..5 = 3
            owner 11 = 2
            step = 2
            holds 2 3 = true
            holds 3 3 = false
            step = 3 4 2
            holds 2 4 = false
            holds 3 4 = true
            # the second write of a COPIED key goes to its own target
            put 4 41 = 0
            size 2 = 1
            size 3 = 1
            step = 3 4 2 3 4 2 3 4 0
            size 1 = 0
            size 2 = 2
            size 3 = 2
            get 3 = 30
            get 4 = 41
            get 5 = 50
            get 11 = 110
            """);
        run("those that were there when it was made", """
            new 1 1
            put 1..3 7 = 1
            remove 2 = 1
            join 1 1 = 2
            state 1 = 1
            state 2 = 0
            state 3 = 1
            # neither put nor remove changes the row afterwards
            put 2 7 = 1
            put 4 7 = 1
            remove 3 = 1
            state 2 = 0
            state 4 = 0
            state 3 = 1
            count 1 = 2
            """);
        run("and have another owner by the new members than by the old ones", """
            new 2 1
            put 0..8 7 = 1
            join 2 1 = 6
            state 0 = 0
            state 1..2 = 1
            # of node 1 before and afterwards
            state 3 = 0
            state 4..7 = 1
            state 8 = 0
            """);
        run("A key of the plan is first NEW, then COPIED, FLIPPED, GONE", """
            new 1 1
            put 1 7 = 1
            join 1 1 = 1
            state 1 = 1
            step = 2
            state 1 = 2
            step = 3
            state 1 = 3
            step = 4
            state 1 = 4
            step = 0
            state 1 = 0
            """);
        run("a plan of all the 256 keys that can be there", "new 2 1\n" + putsOf(1, 256) + """
            count 0 = 256
            size 1 = 256
            leave 1 = 256
            count 0..1 = 256
            count 2 = 0
            put -1 5 = ISE
            step = 2
            put -1 5 = ISE
            step = 3 4
            count 0 = 256
            count 1 = 255
            size 0 = 1
            size 1 = 255
            step = 2
            fail 0 = null
            step = -9
            recover = 255
            count 0..1 = 256
            count 2 = 1
            step = 4 2 3 4
            count 1 = 254
            """);
    }

    /** Keys from 0 on that belong to a node, of the members 0 and 1 with a point each. */
    private static String putsOf(int node, int number) {
        StringBuilder lines = new StringBuilder();
        Model ring = new Model(2, 1);
        for (int key = 0, found = 0; found < number; key++) {
            if (ring.owner(key) == node) {
                lines.append("put ").append(key).append(' ').append(3 * key + 1).append(" = 1\n");
                found++;
            }
        }
        return lines.toString();
    }

    private static String getsOf(String puts, int number) {
        StringBuilder lines = new StringBuilder();
        for (String put : puts.lines().limit(number).toList()) {
            String[] words = put.split(" ");
            lines.append("get ").append(words[1]).append(" = ").append(words[2]).append('\n');
        }
        return lines.toString();
    }

    private static void homes() {
        run("HOME: its SOURCE, if it is in the plan and NEW or COPIED", """
            new 1 1
            put 1 7 = 1
            join 1 1 = 1
            owner 1 = 1
            home 1 = 0
            step = 2
            home 1 = 0
            step = 3
            home 1 = 1
            step = 4
            home 1 = 1
            step = 0
            home 1 = 1
            """);
        run("otherwise its OWNER by the members (with a plan the new ones)", """
            new 2 1
            put 1 7 = 1
            home 4 = 1
            join 2 1 = 1
            home 4 = 2
            home 3 = 1
            home 8 = 0
            put 4 7 = 1
            holds 2 4 = true
            holds 1 4 = false
            """);
        run("A key IS THERE if the store of its home has it", """
            new 1 1
            put 1 7 = 1
            join 1 1 = 1
            step = 2
            fail 0 = null
            step = -9
            recover = 1
            remove 1 = 1
            # the target's store has it, but is not its home
            holds 1 1 = true
            count 0 = 0
            get 1 = NOT_THERE
            remove 1 = 0
            put 1 8 = 1
            step = 2 3
            remove 1 = 1
            # the source's store has it, but is its home no more
            holds 0 1 = true
            count 0 = 0
            get 1 = NOT_THERE
            remove 1 = 0
            put 1 9 = 1
            count 0 = 1
            """);
    }

    private static void writes() {
        run("put: the home's store", """
            new 1 1
            put 1 7 = 1
            put 2 7 = 1
            join 1 1 = 2
            # NEW: the source's
            put 2 8 = 0
            written false = 4
            holds 0 2 = true
            holds 1 2 = false
            # FLIPPED and GONE: the target's
            step = 2 3
            put 1 8 = 0
            written false = 7
            step = 4
            put 1 9 = 0
            written false = 9
            holds 0 1 = false
            holds 1 1 = true
            """);
        run("and, if the key is COPIED, the target's store", """
            new 1 1
            put 1 7 = 1
            join 1 1 = 1
            step = 2
            put 1 8 = 0
            # neither of the two is a record
            written false = 5
            written true = 1
            step = 3
            get 1 = 8
            """);
        run("put: in this order", """
            new 1 1
            put 1 7 = 1
            join 1 1 = 1
            remove 1 = 1
            step = 2
            fail 1 = null
            put 1 8 = -9
            # the home's store has it, the target's has not
            holds 0 1 = true
            holds 1 1 = false
            """);
        run("remove: likewise", """
            new 1 1
            put 1..4 7 = 1
            join 1 1 = 4
            # NEW: the source's store
            remove 4 = 1
            written false = 6
            holds 0 4 = false
            # COPIED: both
            step = 2
            remove 1 = 1
            written false = 9
            written true = 1
            holds 0..1 1 = false
            # FLIPPED, GONE: the target's
            step = 3 4 2 3
            remove 2 = 1
            written false = 14
            holds 0 2 = true
            holds 1 2 = false
            step = 4 2 3 4
            remove 3 = 1
            written false = 19
            holds 0..1 3 = false
            """);
        run("remove: in this order", """
            new 1 1
            put 1 7 = 1
            join 1 1 = 1
            step = 2
            fail 1 = null
            remove 1 = -9
            # off the home's store, not off the target's
            holds 0 1 = false
            holds 1 1 = true
            """);
        run("join, leave: a record of the PLAN (perhaps of no keys, and the new members)", """
            new 1 1
            join 1 1 = 0
            written true = 1
            written false = 1
            count 1..2 = 0
            points 1 = 1
            owner 1 = 1
            step = 0
            leave 0 = 0
            written true = 3
            written false = 3
            count 1..2 = 0
            points 0 = 0
            owner 0 = 1
            """);
    }

    private static void writesOfSteps() {
        run("A STEP looks at the first key of the plan that is not GONE", """
            new 1 1
            put 1..3 7 = 1
            join 1 1 = 3
            step = 2 3 4 2 3 4 2
            fail 0 = null
            step = -9
            # FLIPPED, FLIPPED, NEW: each in its turn
            recover = 1
            step = 4
            state 1 = 4
            state 2 = 3
            state 3 = 1
            step = 4
            state 2 = 4
            step = 2
            state 3 = 2
            step = 3 4 0
            """);
        run("NEW: the target's store gets what the source's has", """
            new 1 1
            put 1 7 = 1
            join 1 1 = 1
            put 1 8 = 0
            step = 2
            written true = 1
            written false = 4
            holds 0..1 1 = true
            step = 3
            get 1 = 8
            """);
        run("(or has nothing, like that one)", """
            new 1 1
            put 1 7 = 1
            join 1 1 = 1
            remove 1 = 1
            step = 2
            written false = 4
            holds 0..1 1 = false
            # an older copy goes
            put 1 8 = 1
            fail 0 = null
            step = -9
            recover = 1
            holds 1 1 = true
            remove 1 = 1
            holds 1 1 = true
            step = 2
            holds 1 1 = false
            written false = 8
            """);
        run("COPIED: a record; it is FLIPPED", """
            new 1 1
            put 1 7 = 1
            join 1 1 = 1
            step = 2
            written true = 1
            written false = 3
            step = 3
            written true = 2
            written false = 4
            holds 0..1 1 = true
            """);
        run("FLIPPED: it is taken off the source's store; GONE", """
            new 1 1
            put 1 7 = 1
            join 1 1 = 1
            step = 2 3
            holds 0 1 = true
            step = 4
            holds 0 1 = false
            holds 1 1 = true
            written true = 2
            written false = 5
            # a write also if there is nothing to take off
            fail 0 = null
            step = -9
            recover = 0
            step = 4
            written false = 6
            fail 0 = null
            step = -9
            recover = 0
            fail 0 = null
            step = -9
            written false = 6
            """);
        run("If all are GONE: a record; there is no plan any more", """
            new 1 1
            put 1 7 = 1
            join 1 1 = 1
            step = 2 3 4
            count 1 = 0
            step = 0
            written true = 3
            written false = 6
            count 1 = -1
            # of no keys all are GONE
            leave 0 = 0
            step = 0
            written true = 5
            count 1 = -1
            """);
    }

    private static void powerFailures() {
        run("POWER FAILS before a write, if that is told (put)", """
            new 1 1
            put 1 7 = 1
            fail 0 = null
            put 1 8 = -9
            off = true
            recover = -1
            get 1 = 7
            fail 0 = null
            put 2 8 = -9
            off = true
            size 0 = 1
            recover = -1
            get 2 = NOT_THERE
            count 0 = 1
            written false = 1
            """);
        run("POWER FAILS before a write, if that is told (remove)", """
            new 1 1
            put 1 7 = 1
            fail 0 = null
            remove 1 = -9
            off = true
            holds 0 1 = true
            recover = -1
            get 1 = 7
            count 0 = 1
            written false = 1
            """);
        run("POWER FAILS before a write, if that is told (join, leave)", """
            new 2 1
            put 1 7 = 1
            fail 0 = null
            join 2 1 = -9
            off = true
            recover = -1
            points 2 = 0
            count 1 = -1
            owner 1 = 1
            fail 0 = null
            leave 1 = -9
            off = true
            recover = -1
            points 1 = 1
            count 1 = -1
            owner 1 = 1
            written true = 0
            written false = 1
            """);
        run("POWER FAILS before a write, if that is told (each kind of step)", """
            new 1 1
            put 1 7 = 1
            join 1 1 = 1
            fail 0 = null
            step = -9
            off = true
            holds 1 1 = false
            written false = 2
            recover = 1
            step = 2
            fail 0 = null
            step = -9
            off = true
            written true = 1
            written false = 3
            recover = 1
            home 1 = 0
            step = 2 3
            fail 0 = null
            step = -9
            off = true
            holds 0 1 = true
            written false = 5
            recover = 0
            step = 4
            fail 0 = null
            step = -9
            off = true
            written true = 2
            written false = 6
            recover = 0
            count 1 = 1
            step = 4 0
            """);
        run("its other writes are not done", """
            new 1 1
            put 1 7 = 1
            join 1 1 = 1
            step = 2
            # before the first of two: neither is done
            fail 0 = null
            put 1 8 = -9
            written false = 3
            recover = 1
            get 1 = 7
            step = 2
            fail 0 = null
            remove 1 = -9
            written false = 4
            holds 0..1 1 = true
            recover = 1
            # before the second: the first is done
            step = 2
            fail 1 = null
            put 1 8 = -9
            written false = 6
            recover = 1
            get 1 = 8
            step = 2
            fail 1 = null
            remove 1 = -9
            written false = 8
            holds 0 1 = false
            holds 1 1 = true
            recover = 1
            count 0 = 0
            # behind the second: both are
            put 1 9 = 1
            step = 2
            fail 2 = null
            put 1 10 = 0
            written false = 12
            off = false
            step = -9
            """);
        run("what is only known (COPIED, GONE) is lost", """
            new 1 1
            put 1..3 7 = 1
            join 1 1 = 3
            step = 2 3 4 2
            state 1 = 4
            state 2 = 2
            # whichever write it fails before
            fail 0 = null
            put 9 9 = -9
            recover = 2
            state 1 = 3
            state 2..3 = 1
            count 1 = 3
            count 2 = 1
            # a key that is NEW again is written in its source's store alone
            written false = 8
            put 2 8 = 0
            written false = 9
            # without a failure nothing is lost
            step = 4 2
            fail 3 = null
            fail -1 = null
            state 1 = 4
            state 2 = 2
            """);
    }

    private static void recoveries() {
        run("RECOVERED, the members come from the log", """
            new 2 3
            join 5 16 = 0
            fail 0 = null
            step = -9
            recover = 0
            points 0..1 = 3
            points 2..4 = 0
            points 5 = 16
            points 6..7 = 0
            step = 0
            leave 0 = 0
            step = 0
            fail 0 = null
            put 1 1 = -9
            recover = -1
            points 0 = 0
            points 1 = 3
            points 5 = 16
            # a member that came back has the newer number
            join 0 9 = 0
            fail 0 = null
            step = -9
            recover = 0
            points 0 = 9
            """);
        run("RECOVERED, the plan comes from the log", """
            new 2 1
            put 0..8 7 = 1
            join 2 1 = 6
            remove 4 = 1
            put 9 7 = 1
            fail 0 = null
            step = -9
            recover = 6
            # as it was made, whatever was put or removed since
            state 4 = 1
            state 9 = 0
            home 1 = 1
            owner 1 = 2
            step = 2 3
            home 1 = 2
            fail 0 = null
            step = -9
            recover = 5
            home 1 = 2
            home 2 = 1
            """);
        run("RECOVERED, that a plan ended comes from the log", """
            new 1 1
            put 1 7 = 1
            join 1 1 = 1
            step = 2 3 4 0
            fail 0 = null
            put 1 8 = -9
            recover = -1
            count 1..2 = -1
            state 1 = 0
            home 1 = 1
            get 1 = 7
            join 2 1 = 1
            """);
        run("which of its keys are FLIPPED (or were) come from the log", """
            new 1 1
            put 1..3 7 = 1
            join 1 1 = 3
            step = 2 3 4 2 3
            state 1 = 4
            state 2 = 3
            fail 0 = null
            step = -9
            recover = 1
            state 1..2 = 3
            # also behind a second failure
            fail 0 = null
            step = -9
            recover = 1
            state 1..2 = 3
            home 1..2 = 1
            """);
        run("a key that is not FLIPPED is NEW", """
            new 1 1
            put 1..2 7 = 1
            join 1 1 = 2
            step = 2
            fail 0 = null
            step = -9
            recover = 2
            state 1..2 = 1
            home 1..2 = 0
            # its copy is there still, and is made anew
            holds 1 1 = true
            put 1 8 = 0
            step = 2 3
            get 1 = 8
            """);
        run("one that was GONE is FLIPPED", """
            new 1 1
            put 1..2 7 = 1
            join 1 1 = 2
            step = 2 3 4 2 3 4
            fail 0 = null
            step = -9
            recover = 0
            state 1..2 = 3
            count 1..2 = 2
            step = 4
            state 1 = 4
            state 2 = 3
            step = 4 0
            """);
    }

    private static void run(String sentence, String text) {
        SCRIPTS.run(sentence, text);
    }
}
