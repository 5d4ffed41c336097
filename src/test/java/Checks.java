/** What the tests share: it counts the checks, and tells each one that is not as due. */
final class Checks {
    interface Call {
        double answer();
    }

    static final Class<IndexOutOfBoundsException> INDEX = IndexOutOfBoundsException.class;
    static final Class<IllegalArgumentException> ARGUMENT = IllegalArgumentException.class;
    static final Class<IllegalStateException> STATE = IllegalStateException.class;

    private static int asked = 0;
    private static int wrong = 0;

    private Checks() {
    }

    /** A rack with a customer for each of the coins. */
    static PawnRack rackWith(int... coins) {
        PawnRack rack = new PawnRack();
        for (int each : coins) {
            rack.come(each);
        }
        return rack;
    }

    static void same(String what, long got, long due) {
        asked++;
        if (got != due) {
            tell(what + " answered " + got + ", due is " + due);
        }
    }

    static void sameDouble(String what, double got, double due) {
        asked++;
        if (got != due) {
            tell(what + " answered " + got + ", due is " + due);
        }
    }

    /** The call has to throw just this class, and to leave the rack as it was. */
    static void refuses(PawnRack rack, String what, Class<? extends RuntimeException> due, Call call) {
        asked++;
        long before = fingerprint(rack);
        String got;
        try {
            got = "the answer " + call.answer();
        } catch (RuntimeException e) {
            got = e.getClass().getName();
        }
        if (!got.equals(due.getName())) {
            tell(what + ": " + got + ", due is " + due.getName());
        }
        if (fingerprint(rack) != before) {
            tell(what + " has changed the rack");
        }
    }

    /**
     * All that digest tells, and what is to come; no more, since nothing is promised of an object
     * behind its 512th call, and a test has to stay below that.
     */
    static long fingerprint(PawnRack rack) {
        return 37 * rack.digest() + rack.foresee(200, 0);
    }

    private static void tell(String text) {
        wrong++;
        if (wrong <= 50) {
            System.out.println(text);
        }
    }

    static boolean anyWrong() {
        return wrong > 0;
    }

    static void end() {
        System.out.println(asked + " checks, " + wrong + " not as due");
        if (wrong > 0 || asked == 0) {
            System.exit(1);
        }
    }
}
