/**
 * "A call that throws changes nothing; of several exceptions the one named first is thrown."
 *
 * Every call that can be refused, for one reason or for several at once, with and without power, a
 * plan (at each of its stages), room for keys, and a failure that is told. {@link Scripts} looks
 * behind each refusal whether something has changed.
 * Nodes 0 and 1 are members in all situations but one, nodes 5 to 7 in none; key 999 is never there.
 */
public final class RefusalsTest {
    private static final Scripts SCRIPTS = new Scripts("RefusalsTest");

    /** Refused whatever the situation is: these exceptions are named before IllegalStateException. */
    private static final String ALWAYS = """
        join -1 1 = OUT
        join 8 1 = OUT
        join -2147483648 1 = OUT
        join 2147483647 1 = OUT
        # no such node, and points that are not 1 .. 16
        join -1 0 = OUT
        join 8 17 = OUT
        join 7 0 = IAE
        join 7 17 = IAE
        join 7 -2147483648 = IAE
        join 7 2147483647 = IAE
        # a member already, and points that are not 1 .. 16
        join 0 0 = IAE
        join 0 17 = IAE
        leave -1 = OUT
        leave 8 = OUT
        fail -2 = IAE
        fail -2147483648 = IAE
        holds -1 1 = OUT
        holds 8 1 = OUT
        size -1 = OUT
        size 8 = OUT
        key -1 0 = OUT
        key 8 0 = OUT
        key 0 -1 = OUT
        key 0 512 = OUT
        key 7 0 = OUT
        points -1 = OUT
        points 8 = OUT
        count -1 = IAE
        count 3 = IAE
        share -1 = OUT
        share 8 = OUT
        """;

    private static final String WHILE_OFF = """
        put 1 5 = ISE
        put 999 5 = ISE
        remove 1 = ISE
        remove 999 = ISE
        get 1 = ISE
        # the power is off, and the key is not there
        get 999 = ISE
        join 7 1 = ISE
        join 0 16 = ISE
        leave 1 = ISE
        leave 7 = ISE
        step = ISE
        fail -1 = ISE
        fail 0 = ISE
        fail 2147483647 = ISE
        owner 1 = ISE
        home 1 = ISE
        state 1 = ISE
        points 0 = ISE
        points 7 = ISE
        count 0..2 = ISE
        share 0 = ISE
        share 7 = ISE
        """;

    private static final String WHILE_ON = """
        recover = ISE
        get 999 = NOT_THERE
        get -2147483648 = NOT_THERE
        # a member already
        join 0 1 = ISE
        join 1 16 = ISE
        # no member
        leave 7 = ISE
        """;

    private static final String WITHOUT_PLAN = """
        step = ISE
        """;

    private static final String WITH_PLAN = """
        join 7 1 = ISE
        leave 0 = ISE
        leave 1 = ISE
        """;

    private static final String WHILE_FULL = """
        put 999 5 = ISE
        put -1 5 = ISE
        put 2147483647 5 = ISE
        """;

    private RefusalsTest() { }

    public static void main(String[] args) {
        withoutPlan();
        withPlan();
        withoutPower();
        SCRIPTS.end();
    }

    private static void withoutPlan() {
        String refused = ALWAYS + WHILE_ON + WITHOUT_PLAN;
        SCRIPTS.run("a new object", """
            new 2 1
            """ + refused);
        SCRIPTS.run("a few keys", """
            new 2 1
            put 0..4 7 = 1
            """ + refused);
        SCRIPTS.run("256 keys", """
            new 2 1
            put 0..255 7 = 1
            """ + refused + WHILE_FULL);
        SCRIPTS.run("256 keys, told to fail before the next write", """
            new 2 1
            put 0..255 7 = 1
            fail 0 = null
            """ + WHILE_FULL);
        SCRIPTS.run("the only member", """
            new 1 16
            put 1 7 = 1
            leave 0 = ISE
            leave 1 = ISE
            leave 8 = OUT
            """);
        SCRIPTS.run("told to fail before the next write", """
            new 2 1
            put 1 7 = 1
            fail 0 = null
            """ + refused);
        SCRIPTS.run("told to fail before the third write", """
            new 2 1
            put 1 7 = 1
            fail 2 = null
            """ + refused);
        SCRIPTS.run("recovered", """
            new 2 1
            put 1 7 = 1
            fail 0 = null
            put 1 8 = -9
            recover = -1
            """ + refused);
        SCRIPTS.run("behind a plan", """
            new 2 1
            put 1 7 = 1
            join 2 1 = 1
            step = 2 3 4 0
            """ + refused);
    }

    private static void withPlan() {
        String refused = ALWAYS + WHILE_ON + WITH_PLAN;
        SCRIPTS.run("a plan of no keys", """
            new 2 1
            join 2 1 = 0
            """ + refused);
        String plan = """
            new 2 1
            put 1..3 7 = 1
            join 2 1 = 2
            """;
        SCRIPTS.run("all keys NEW", plan + refused);
        SCRIPTS.run("a key COPIED", plan + "step = 2\n" + refused);
        SCRIPTS.run("a key FLIPPED", plan + "step = 2 3\n" + refused);
        SCRIPTS.run("a key GONE", plan + "step = 2 3 4\n" + refused);
        SCRIPTS.run("a key GONE, the next one COPIED", plan + "step = 2 3 4 2\n" + refused);
        SCRIPTS.run("all keys GONE", plan + "step = 2 3 4 2 3 4\n" + refused);
        SCRIPTS.run("a key GONE, the next one COPIED, told to fail", plan + """
            step = 2 3 4 2
            fail 1 = null
            """ + refused);
        SCRIPTS.run("a key recovered as FLIPPED, the next one as NEW", plan + """
            step = 2 3 4 2
            fail 0 = null
            step = -9
            recover = 1
            """ + refused);
        SCRIPTS.run("the plan of a node that leaves", """
            new 3 1
            put 1..3 7 = 1
            leave 2 = 2
            step = 2
            """ + refused + """
            leave 2 = ISE
            join 2 1 = ISE
            """);
        SCRIPTS.run("256 keys and a plan", """
            new 2 1
            put 0..255 7 = 1
            join 2 1 = 176
            step = 2
            """ + refused + WHILE_FULL);
    }

    private static void withoutPower() {
        String refused = ALWAYS + WHILE_OFF;
        SCRIPTS.run("off, and no key", """
            new 2 1
            fail 0 = null
            put 1 7 = -9
            """ + refused);
        SCRIPTS.run("off, without a plan", """
            new 2 1
            put 1..3 7 = 1
            fail 0 = null
            put 1 8 = -9
            """ + refused);
        SCRIPTS.run("off, with a plan, a key GONE and the next one COPIED", """
            new 2 1
            put 1..3 7 = 1
            join 2 1 = 2
            step = 2 3 4 2
            fail 0 = null
            step = -9
            """ + refused);
        SCRIPTS.run("off between the two writes of a put", """
            new 2 1
            put 1..3 7 = 1
            join 2 1 = 2
            step = 2
            fail 1 = null
            put 1 8 = -9
            """ + refused);
        SCRIPTS.run("off before a join's record", """
            new 2 1
            put 1..3 7 = 1
            fail 0 = null
            join 2 1 = -9
            """ + refused);
        SCRIPTS.run("off, and 256 keys", """
            new 2 1
            put 0..255 7 = 1
            fail 0 = null
            put 1 8 = -9
            """ + WHILE_FULL + refused);
    }
}
