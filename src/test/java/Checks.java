/** What the tests share: it counts the checks, and tells each one that is not as due. */
final class Checks {
    interface Call {
        double answer();
    }

    static final Class<IndexOutOfBoundsException> INDEX = IndexOutOfBoundsException.class;
    static final Class<IllegalArgumentException> ARGUMENT = IllegalArgumentException.class;
    static final Class<IllegalStateException> STATE = IllegalStateException.class;

    private static int asked = 0;
    private static int wrong = 0;

    private Checks() {
    }

    static void same(String what, long got, long due) {
        asked++;
        if (got != due) {
            tell(what + " answered " + got + ", due is " + due);
        }
    }

    static void sameDouble(String what, double got, double due) {
        asked++;
        if (got != due) {
            tell(what + " answered " + got + ", due is " + due);
        }
    }

    /** The call has to throw just this class, and to leave the rack as it was. */
    static void refuses(PawnRack rack, String what, Class<? extends RuntimeException> due, Call call) {
        asked++;
        long before = fingerprint(rack);
        String got;
        try {
            got = "the answer " + call.answer();
        } catch (RuntimeException e) {
            got = e.getClass().getName();
        }
        if (!got.equals(due.getName())) {
            tell(what + ": " + got + ", due is " + due.getName());
        }
        if (fingerprint(rack) != before) {
            tell(what + " has changed the rack");
        }
    }

    /** More than digest tells: the places, and what is to come. */
    static long fingerprint(PawnRack rack) {
        long sum = rack.digest();
        for (int shelf = 0; shelf < 3; shelf++) {
            for (int place = 0; place < 10 * (shelf + 1); place++) {
                sum = sum * 37 + rack.at(shelf, place);
            }
        }
        for (int what = 0; what < 3; what++) {
            sum = sum * 37 + rack.foresee(70, what);
        }
        return sum;
    }

    private static void tell(String text) {
        wrong++;
        if (wrong <= 50) {
            System.out.println(text);
        }
    }

    static boolean anyWrong() {
        return wrong > 0;
    }

    static void end() {
        System.out.println(asked + " checks, " + wrong + " not as due");
        if (wrong > 0 || asked == 0) {
            System.exit(1);
        }
    }
}
