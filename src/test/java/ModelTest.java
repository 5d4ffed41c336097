import java.util.Random;

/** Random runs on the program and on the model, up to the 512th call: each answer has to be the same. */
public final class ModelTest {
    private static final int RUNS = 1500;
    private static final int STEPS = 409;
    // Each object answers 409 steps and 102 digests, and so not more than 512 calls.
    private static final int STEPS_TO_A_DIGEST = 4;

    private final Random random;
    private final PawnRack rack = new PawnRack();
    private final Model model = new Model();
    // Each run has ways of its own, so that some fill the rack, and others go far into the days.
    private final int dearest;
    private final int widest;
    private final int longest;
    private final int wildness;

    private ModelTest(int seed) {
        random = new Random(seed);
        dearest = random.nextBoolean() ? 500 : 30;
        widest = 1 + random.nextInt(10);
        longest = random.nextBoolean() ? 200 : 8;
        wildness = random.nextInt(4) == 0 ? 5 : 60;
    }

    public static void main(String[] args) {
        for (int seed = 0; seed < RUNS && !Checks.anyWrong(); seed++) {
            ModelTest run = new ModelTest(seed);
            for (int n = 1; n <= STEPS && !Checks.anyWrong(); n++) {
                String where = "seed " + seed + ", step " + n + ", ";
                run.step(where);
                if (n % STEPS_TO_A_DIGEST == 0) {
                    Checks.same(where + "digest", run.rack.digest(), run.model.digest());
                }
            }
        }
        Checks.end();
    }

    /** A number from least to most; now and then one just outside, or far outside. */
    private int number(int least, int most) {
        if (random.nextInt(wildness) == 0) {
            int[] outside = {least - 1, most + 1, Integer.MIN_VALUE, Integer.MAX_VALUE};
            return outside[random.nextInt(4)];
        }
        return least + random.nextInt(Math.max(1, most - least + 1));
    }

    private int someCustomer() {
        return number(0, model.customers.size() - 1);
    }

    private int someTicket() {
        return number(0, model.things.size() - 1);
    }

    private void step(String where) {
        switch (random.nextInt(24)) {
            case 0: { int c = number(0, random.nextBoolean() ? 2000 : 40); both(where + "come " + c, () -> rack.come(c), () -> model.come(c)); break; }
            case 1: { int c = someCustomer(), n = number(1, random.nextBoolean() ? 1000 : 40); both(where + "earn " + c + " " + n, () -> rack.earn(c, n), () -> model.earn(c, n)); break; }
            case 2: { int d = number(0, 6), k = number(-1, 4), p = number(0, 500); both(where + "setBuyer " + d + " " + k + " " + p, () -> rack.setBuyer(d, k, p), () -> model.setBuyer(d, k, p)); break; }
            case 3: { int c = someCustomer(), w = number(0, 4); both(where + "customer " + c + " " + w, () -> rack.customer(c, w), () -> model.customer(c, w)); break; }
            case 4: case 5: case 6: case 7: { int c = someCustomer(), k = number(0, 4), v = number(1, dearest), w = number(1, widest); both(where + "pledge " + c + " " + k + " " + v + " " + w, () -> rack.pledge(c, k, v, w), () -> model.pledge(c, k, v, w)); break; }
            case 8: { int t = someTicket(), w = number(0, 10); both(where + "ticket " + t + " " + w, () -> rack.ticket(t, w), () -> model.ticket(t, w)); break; }
            case 9: { int t = someTicket(); both(where + "owes " + t, () -> rack.owes(t), () -> model.owes(t)); break; }
            case 10: case 11: { int t = someTicket(); both(where + "renew " + t, () -> rack.renew(t), () -> model.renew(t)); break; }
            case 12: { int t = someTicket(); both(where + "fetch " + t, () -> rack.fetch(t), () -> model.fetch(t)); break; }
            case 13: { int s = number(0, 2), p = number(0, 9 + 10 * Math.max(0, Math.min(2, s))); both(where + "at " + s + " " + p, () -> rack.at(s, p), () -> model.at(s, p)); break; }
            case 14: { int w = number(1, 10); both(where + "room " + w, () -> rack.room(w), () -> model.room(w)); break; }
            case 15: both(where + "tidy", () -> rack.tidy(), () -> model.tidy()); break;
            case 16: case 17: { int d = number(1, longest); both(where + "pass " + d, () -> rack.pass(d), () -> model.pass(d)); break; }
            case 18: { int w = number(0, 10); both(where + "count " + w, () -> rack.count(w), () -> model.count(w)); break; }
            case 19: { int d = number(1, 200), w = number(0, 2); both(where + "foresee " + d + " " + w, () -> rack.foresee(d, w), () -> model.foresee(d, w)); break; }
            case 20: { int n = number(1, random.nextBoolean() ? 1500 : 60); both(where + "raise " + n, () -> rack.raise(n), () -> model.raise(n)); break; }
            case 21: { int c = someCustomer(); both(where + "best " + c, () -> rack.best(c), () -> model.best(c)); break; }
            case 22: { int c = someCustomer(); both(where + "most " + c, () -> rack.most(c), () -> model.most(c)); break; }
            default: both(where + "fetched", () -> rack.fetched(), () -> model.fetched()); break;
        }
    }

    private static void both(String what, Checks.Call ours, Checks.Call due) {
        String got = outcome(ours);
        String want = outcome(due);
        Checks.same(what + " (" + got + ", due is " + want + "): the same", got.equals(want) ? 1 : 0, 1);
    }

    private static String outcome(Checks.Call call) {
        try {
            return "" + call.answer();
        } catch (RuntimeException e) {
            return e.getClass().getName();
        }
    }
}
