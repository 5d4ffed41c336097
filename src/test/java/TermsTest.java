/** What the terms say of sizes and least amounts, on which all promises stand. */
public final class TermsTest {
    private static final int LAST_CALL = 512;

    public static void main(String[] args) {
        coinsAtTheLastCall();
        daysAtTheLastCall();
        refusedAtTheLastCall();
        eachWidthTakesItsPlaces();
        aThingLiesOnOneShelf();
        loansByTrust();
        leastLoan();
        leastInterest();
        interestByDays();
        dueAfterSixtyDays();
        Checks.end();
    }

    /** Nothing is promised behind the 512th call, but up to that all holds. */
    private static void coinsAtTheLastCall() {
        PawnRack rack = new PawnRack();
        rack.come(2000);
        for (int call = 2; call < LAST_CALL; call++) {
            rack.earn(0, 1000);
        }
        Checks.same("the most coins that can be", rack.earn(0, 1000), 513_000);
    }

    private static void daysAtTheLastCall() {
        PawnRack rack = new PawnRack();
        rack.come(0);
        for (int call = 2; call < LAST_CALL; call++) {
            rack.pass(200);
        }
        Checks.same("the latest day that can be told", rack.count(0), 102_000);
        PawnRack late = new PawnRack();
        late.come(0);
        for (int call = 2; call < LAST_CALL - 4; call++) {
            late.pass(200);
        }
        Checks.same("a late pledge", late.pledge(0, 0, 10, 1), 0);
        late.setBuyer((101_200 + 61) % 7, 0, 10);
        Checks.same("held up to the day behind the due one", late.pass(61), 0);
        Checks.same("sold on that day", late.pass(1), 1);
        Checks.same("the late day", late.count(0), 101_262);
    }

    private static void refusedAtTheLastCall() {
        PawnRack rack = Checks.rackWith(0, 0, 0, 0, 0, 0, 0, 0, 0, 0);
        for (int call = 11; call < LAST_CALL - 4; call++) {
            rack.tidy();
        }
        Checks.refuses(rack, "an 11th customer", Checks.STATE, () -> rack.come(0));
    }

    private static void eachWidthTakesItsPlaces() {
        for (int width = 1; width <= 10; width++) {
            PawnRack rack = Checks.rackWith(0);
            rack.pledge(0, 0, 1, width);
            Checks.same("places taken by the width " + width, rack.count(8), width);
            for (int place = 0; place < 10; place++) {
                int due = place < width ? 0 : -1;
                Checks.same("width " + width + " at " + place, rack.at(0, place), due);
            }
            if (width < 10) {
                Checks.same("the rest of the shelf", rack.room(10 - width), width);
            }
            Checks.same("more than the rest", rack.room(11 - width), 100);
        }
    }

    /** The ends of two shelves are no gap, however wide they are together. */
    private static void aThingLiesOnOneShelf() {
        PawnRack rack = Checks.rackWith(0);
        for (int width : new int[] {9, 10, 2, 7, 10, 10, 8}) {
            rack.pledge(0, 0, 1, width);
        }
        Checks.same("free places", 60 - rack.count(8), 4);
        Checks.same("the widest gap", rack.room(2), 228);
        Checks.same("no gap of three", rack.room(3), -1);
        Checks.same("the first gap of one", rack.room(1), 9);
        Checks.refuses(rack, "a thing of three", Checks.STATE, () -> rack.pledge(0, 0, 1, 3));
    }

    private static PawnRack rackWithTrust(int trust) {
        PawnRack rack = Checks.rackWith(2000);
        int left = trust == 0 ? 3 : trust >= 5 ? 0 : (6 - trust) / 2;
        for (int i = 0; i < left; i++) {
            rack.pledge(0, 0, 1, 1);
        }
        rack.pass(62);
        while (rack.customer(0, 1) < trust) {
            rack.fetch(rack.pledge(0, 0, 1, 1));
        }
        Checks.same("trust", rack.customer(0, 1), trust);
        return rack;
    }

    private static void loansByTrust() {
        int[] loans = {199, 219, 239, 259, 279, 299, 319, 339, 359, 379, 399};
        for (int trust = 0; trust <= 10; trust++) {
            PawnRack rack = rackWithTrust(trust);
            int coins = rack.count(1);
            int ticket = rack.pledge(0, 0, 499, 1);
            Checks.same("loan for 499 with the trust " + trust, rack.ticket(ticket, 4), loans[trust]);
            Checks.same("the broker gives it", rack.count(1), coins - loans[trust]);
            Checks.same("the trust is as it was", rack.customer(0, 1), trust);
        }
    }

    private static void leastLoan() {
        lends(0, new int[] {1, 2, 3, 4, 5, 7, 8}, new int[] {1, 1, 1, 1, 2, 2, 3});
        lends(5, new int[] {1, 2, 3, 4, 5}, new int[] {1, 1, 1, 2, 3});
        lends(10, new int[] {1, 2, 3, 4}, new int[] {1, 1, 2, 3});
    }

    private static void lends(int trust, int[] values, int[] loans) {
        PawnRack rack = rackWithTrust(trust);
        for (int i = 0; i < values.length; i++) {
            int ticket = rack.pledge(0, 0, values[i], 1);
            Checks.same("loan for " + values[i] + " with the trust " + trust, rack.ticket(ticket, 4), loans[i]);
        }
    }

    private static void leastInterest() {
        PawnRack rack = Checks.rackWith(0);
        int[] values = {1, 32, 34, 65, 67, 99, 100};
        int[] loans = {1, 19, 20, 39, 40, 59, 60};
        int[] interest = {1, 1, 1, 1, 2, 2, 3};
        for (int value : values) {
            rack.pledge(0, 0, value, 1);
        }
        for (int begun = 1; begun <= 3; begun++) {
            for (int i = 0; i < loans.length; i++) {
                Checks.same("the loan", rack.ticket(i, 4), loans[i]);
                Checks.same("owed for " + loans[i], rack.owes(i), loans[i] + begun * interest[i]);
            }
            rack.pass(begun == 3 ? 1 : 30);
        }
    }

    /** One on the same day, two from the 30th day behind it on; anew with each renewal. */
    private static void interestByDays() {
        PawnRack rack = Checks.rackWith(500);
        rack.pass(11);
        rack.pledge(0, 0, 100, 1); // a loan of 60, and 3 for each 30 days
        Checks.same("on the same day", rack.owes(0), 63);
        for (int renewals = 0; renewals <= 3; renewals++) {
            for (int days = 1; days <= 61; days++) {
                rack.pass(1);
                int begun = days < 30 ? 1 : days < 60 ? 2 : 3;
                Checks.same("owed " + days + " days behind", rack.owes(0), 60 + 3 * begun);
            }
            if (renewals < 3) {
                Checks.same("interest of three", rack.renew(0), 9);
                Checks.same("on the day of the renewal", rack.owes(0), 63);
            }
        }
    }

    private static void dueAfterSixtyDays() {
        PawnRack rack = Checks.rackWith(500);
        rack.pledge(0, 0, 100, 1);
        Checks.same("due from the day 0", rack.ticket(0, 5), 60);
        rack.pass(1);
        rack.pledge(0, 0, 100, 1);
        Checks.same("due from the day 1", rack.ticket(1, 5), 61);
        rack.pass(60);
        Checks.same("renewed", rack.renew(0), 9);
        Checks.same("due from the day 61", rack.ticket(0, 5), 121);
        rack.pass(1);
        Checks.same("the other is held as the day 61 has gone by", rack.ticket(1, 6), 0);
        rack.pass(1);
        Checks.same("and for sale as the day 62 has", rack.ticket(1, 6), 2);
        rack.pass(59);
        Checks.same("the renewed one is held as the day 121 has gone by", rack.ticket(0, 6), 0);
        rack.pass(1);
        Checks.same("and for sale as the day 122 has", rack.ticket(0, 6), 2);
    }
}
