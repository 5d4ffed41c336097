/** Promises 6 to 10: pledge, ticket, owes, renew, fetch. */
public final class PledgesTest {
    public static void main(String[] args) {
        pledge();
        loansFollowTrust();
        pledgeNeedsCoins();
        pledgeNeedsRoom();
        pledgeNeedsTickets();
        pledgeFillsAllAtOnce();
        pledgeRefuses();
        pledgeRefusesInOrder();
        ticket();
        ticketRefuses();
        owes();
        owesRefuses();
        renew();
        renewNeedsCoins();
        renewRefuses();
        fetch();
        fetchNeedsCoins();
        fetchAfterTheDueDay();
        fetchRefuses();
        Checks.end();
    }

    private static void pledge() {
        PawnRack rack = Checks.rackWith(30, 0);
        Checks.same("first ticket", rack.pledge(0, 2, 200, 6), 0);
        Checks.same("second ticket", rack.pledge(1, 0, 100, 6), 1);
        Checks.same("third ticket", rack.pledge(0, 4, 19, 4), 2);
        Checks.same("loans given", rack.count(1), 400 - 120 - 60 - 11);
        Checks.same("coins of 0", rack.customer(0, 0), 30 + 120 + 11);
        Checks.same("coins of 1", rack.customer(1, 0), 60);
        Checks.same("trust is as it was", rack.customer(0, 1), 5);
        Checks.same("on shelf 0", rack.at(0, 5), 0);
        Checks.same("on shelf 1, which is the first with 6 places", rack.at(1, 0), 1);
        Checks.same("beside the first", rack.at(0, 6), 2);
        Checks.same("to the end", rack.at(0, 9), 2);
    }

    private static void loansFollowTrust() {
        PawnRack rack = Checks.rackWith(2000);
        for (int trust = 5; trust <= 10; trust++) {
            Checks.same("trust", rack.customer(0, 1), trust);
            int ticket = rack.pledge(0, 0, 333, 1);
            Checks.same("loan at trust " + trust, rack.ticket(ticket, 4), 333 * (40 + 4 * trust) / 100);
            rack.fetch(ticket);
        }
        int small = rack.pledge(0, 0, 1, 1);
        Checks.same("least loan", rack.ticket(small, 4), 1);
        for (int i = 0; i < 5; i++) {
            rack.pledge(0, 0, 1, 1);
        }
        rack.pass(62);
        Checks.same("no trust left", rack.customer(0, 1), 0);
        int last = rack.pledge(0, 0, 333, 1);
        Checks.same("loan without trust", rack.ticket(last, 4), 133);
        Checks.same("due 60 days on", rack.ticket(last, 5), 122);
    }

    private static void pledgeNeedsCoins() {
        PawnRack rack = Checks.rackWith(0, 0);
        rack.pledge(0, 0, 500, 1);
        Checks.same("coins left", rack.count(1), 100);
        Checks.refuses(rack, "a loan of 101", Checks.STATE, () -> rack.pledge(1, 0, 169, 1));
        Checks.same("a loan of just 100", rack.pledge(1, 0, 168, 1), 1);
        Checks.same("all is given", rack.count(1), 0);
        Checks.refuses(rack, "a loan of 1", Checks.STATE, () -> rack.pledge(1, 0, 1, 1));
    }

    private static void pledgeNeedsRoom() {
        PawnRack rack = Checks.rackWith(0);
        for (int i = 0; i < 5; i++) {
            rack.pledge(0, 0, 1, 10);
        }
        rack.pledge(0, 0, 1, 9);
        Checks.refuses(rack, "2 places", Checks.STATE, () -> rack.pledge(0, 0, 1, 2));
        Checks.same("the last place", rack.pledge(0, 0, 1, 1), 6);
        Checks.refuses(rack, "1 place", Checks.STATE, () -> rack.pledge(0, 0, 1, 1));
    }

    private static void pledgeNeedsTickets() {
        PawnRack rack = Checks.rackWith(0);
        for (int i = 0; i < 40; i++) {
            Checks.same("ticket", rack.pledge(0, 0, 1, 1), i);
        }
        Checks.same("tickets", rack.count(3), 40);
        Checks.same("there is room", rack.room(10), 210);
        Checks.refuses(rack, "ticket 41", Checks.STATE, () -> rack.pledge(0, 0, 1, 1));
        rack.earn(0, 100);
        rack.fetch(0);
        Checks.refuses(rack, "a number is not used again", Checks.STATE, () -> rack.pledge(0, 0, 1, 1));
        Checks.refuses(rack, "ticket 41 of kind 5", Checks.ARGUMENT, () -> rack.pledge(0, 5, 1, 1));
        Checks.refuses(rack, "ticket 41 of customer 1", Checks.INDEX, () -> rack.pledge(1, 5, 1, 1));
        Checks.same("the last one is a ticket like the others", rack.ticket(39, 8), 9);
    }

    /** The 40th ticket takes the last place, and the last coins. */
    private static void pledgeFillsAllAtOnce() {
        PawnRack rack = Checks.rackWith(0);
        for (int i = 0; i < 40; i++) {
            Checks.same("ticket", rack.pledge(0, 0, 17, i < 30 ? 1 : 3), i);
        }
        Checks.same("no coins", rack.count(1), 0);
        Checks.same("all places", rack.count(8), 60);
        Checks.same("no room", rack.room(1), -1);
        Checks.same("the last ticket in the last place", rack.at(2, 29), 39);
        Checks.same("all loans", rack.count(9), 400);
        Checks.refuses(rack, "one more", Checks.STATE, () -> rack.pledge(0, 0, 1, 1));
    }

    private static void pledgeRefuses() {
        PawnRack rack = Checks.rackWith(10);
        for (int customer : new int[] {-1, 1, 10, Integer.MIN_VALUE, Integer.MAX_VALUE}) {
            Checks.refuses(rack, "pledge of " + customer, Checks.INDEX, () -> rack.pledge(customer, 0, 1, 1));
            Checks.refuses(rack, "wrong pledge of " + customer, Checks.INDEX, () -> rack.pledge(customer, 9, 0, 0));
        }
        for (int kind : new int[] {-1, 5, Integer.MIN_VALUE, Integer.MAX_VALUE}) {
            Checks.refuses(rack, "kind " + kind, Checks.ARGUMENT, () -> rack.pledge(0, kind, 1, 1));
        }
        for (int value : new int[] {-1, 0, 501, Integer.MIN_VALUE, Integer.MAX_VALUE}) {
            Checks.refuses(rack, "value " + value, Checks.ARGUMENT, () -> rack.pledge(0, 0, value, 1));
        }
        for (int width : new int[] {-1, 0, 11, Integer.MIN_VALUE, Integer.MAX_VALUE}) {
            Checks.refuses(rack, "width " + width, Checks.ARGUMENT, () -> rack.pledge(0, 0, 1, width));
        }
        Checks.same("the edges are good", rack.pledge(0, 4, 500, 10), 0);
        Checks.same("the other edges are good", rack.pledge(0, 0, 1, 1), 1);
        Checks.refuses(rack, "no coins and a wrong width", Checks.ARGUMENT, () -> rack.pledge(0, 0, 500, 11));
        Checks.refuses(rack, "no coins and a wrong customer", Checks.INDEX, () -> rack.pledge(1, 0, 500, 1));
    }

    private static void ticket() {
        PawnRack rack = Checks.rackWith(100, 0);
        rack.pass(5);
        rack.pledge(1, 3, 200, 7);
        rack.pledge(0, 1, 90, 6);
        rack.pledge(0, 2, 60, 2);
        rack.pledge(1, 4, 11, 10);
        tells(rack, 0, 1, 3, 200, 7, 120, 65, 0, 0, 0, 0, 0);
        tells(rack, 1, 0, 1, 90, 6, 54, 65, 0, 1, 0, 0, 0);
        tells(rack, 2, 0, 2, 60, 2, 36, 65, 0, 0, 7, 0, 0);
        tells(rack, 3, 1, 4, 11, 10, 6, 65, 0, 1, 6, 0, 0);
        rack.pass(3);
        rack.renew(0);
        tells(rack, 0, 1, 3, 200, 7, 120, 68, 0, 0, 0, 0, 1);
        rack.fetch(2);
        tells(rack, 2, 0, 2, 60, 2, 36, 65, 1, -1, -1, 0, 0);
        rack.pass(58);
        tells(rack, 1, 0, 1, 90, 6, 54, 65, 0, 1, 0, 0, 0);
        rack.pass(1);
        tells(rack, 1, 0, 1, 90, 6, 54, 65, 2, 1, 0, 90, 0);
        rack.pass(1);
        tells(rack, 1, 0, 1, 90, 6, 54, 65, 2, 1, 0, 86, 0);
        rack.setBuyer(68 % 7, 1, 500);
        Checks.same("sold", rack.pass(1), 1);
        tells(rack, 1, 0, 1, 90, 6, 54, 65, 3, -1, -1, 82, 0);
        rack.pass(10);
        tells(rack, 1, 0, 1, 90, 6, 54, 65, 3, -1, -1, 82, 0);
        tells(rack, 0, 1, 3, 200, 7, 120, 68, 2, 0, 0, 200 - 9 * 10, 1);
    }

    private static void tells(PawnRack rack, int ticket, int... due) {
        for (int what = 0; what < due.length; what++) {
            Checks.same("ticket(" + ticket + ", " + what + ")", rack.ticket(ticket, what), due[what]);
        }
    }

    /** What is wrong in the arguments is told, even if coins or room are lacking as well. */
    private static void pledgeRefusesInOrder() {
        PawnRack poor = Checks.rackWith(0);
        poor.pledge(0, 0, 500, 1);
        poor.pledge(0, 0, 167, 1);
        Checks.same("no coins", poor.count(1), 0);
        refusesInOrder(poor);
        PawnRack full = Checks.rackWith(0);
        for (int i = 0; i < 6; i++) {
            full.pledge(0, 0, 1, 10);
        }
        Checks.same("no room", full.room(1), -1);
        refusesInOrder(full);
    }

    private static void refusesInOrder(PawnRack rack) {
        Checks.refuses(rack, "a good pledge", Checks.STATE, () -> rack.pledge(0, 0, 500, 10));
        Checks.refuses(rack, "of kind 5", Checks.ARGUMENT, () -> rack.pledge(0, 5, 500, 10));
        Checks.refuses(rack, "of kind -1", Checks.ARGUMENT, () -> rack.pledge(0, -1, 500, 10));
        Checks.refuses(rack, "of the value 501", Checks.ARGUMENT, () -> rack.pledge(0, 0, 501, 10));
        Checks.refuses(rack, "of the value 0", Checks.ARGUMENT, () -> rack.pledge(0, 0, 0, 10));
        Checks.refuses(rack, "of the width 11", Checks.ARGUMENT, () -> rack.pledge(0, 0, 500, 11));
        Checks.refuses(rack, "of the width 0", Checks.ARGUMENT, () -> rack.pledge(0, 0, 500, 0));
        Checks.refuses(rack, "of customer 1", Checks.INDEX, () -> rack.pledge(1, 0, 500, 10));
        Checks.refuses(rack, "all wrong", Checks.INDEX, () -> rack.pledge(-1, 5, 501, 11));
    }

    private static void ticketRefuses() {
        PawnRack rack = Checks.rackWith(10);
        Checks.refuses(rack, "ticket without one", Checks.INDEX, () -> rack.ticket(0, 0));
        rack.pledge(0, 0, 1, 1);
        for (int number : new int[] {-1, 1, 40, Integer.MIN_VALUE, Integer.MAX_VALUE}) {
            Checks.refuses(rack, "ticket(" + number + ", 0)", Checks.INDEX, () -> rack.ticket(number, 0));
        }
        for (int what : new int[] {-1, 11, Integer.MIN_VALUE, Integer.MAX_VALUE}) {
            Checks.refuses(rack, "ticket(0, " + what + ")", Checks.INDEX, () -> rack.ticket(0, what));
        }
    }

    private static void owes() {
        PawnRack rack = Checks.rackWith(500);
        rack.pledge(0, 0, 330, 1); // a loan of 198, and 9 for each 30 days
        rack.pledge(0, 0, 2, 1);   // a loan of 1, and 1 for each 30 days
        rack.pledge(0, 0, 65, 1);  // a loan of 39, and 1 for each 30 days
        rack.pledge(0, 0, 67, 1);  // a loan of 40, and 2 for each 30 days
        owed(rack, "on the same day", 207, 2, 40, 42);
        rack.pass(29);
        owed(rack, "on the 29th day", 207, 2, 40, 42);
        rack.pass(1);
        owed(rack, "on the 30th day", 216, 3, 41, 44);
        rack.pass(29);
        owed(rack, "on the 59th day", 216, 3, 41, 44);
        rack.pass(1);
        owed(rack, "on the 60th day", 225, 4, 42, 46);
        rack.renew(0);
        rack.fetch(1);
        owed(rack, "renewed and fetched", 207, 0, 42, 46);
        rack.pass(1);
        owed(rack, "held until the day after the due one has gone", 207, 0, 42, 46);
        rack.pass(1);
        owed(rack, "for sale", 207, 0, 0, 0);
        rack.setBuyer(62 % 7, 0, 500);
        rack.pass(1);
        owed(rack, "sold", 207, 0, 0, 0);
    }

    private static void owed(PawnRack rack, String when, int... due) {
        for (int i = 0; i < due.length; i++) {
            Checks.same("owes(" + i + ") " + when, rack.owes(i), due[i]);
        }
    }

    private static void owesRefuses() {
        PawnRack rack = Checks.rackWith(10);
        Checks.refuses(rack, "owes without tickets", Checks.INDEX, () -> rack.owes(0));
        rack.pledge(0, 0, 1, 1);
        for (int number : new int[] {-1, 1, 40, Integer.MIN_VALUE, Integer.MAX_VALUE}) {
            Checks.refuses(rack, "owes(" + number + ")", Checks.INDEX, () -> rack.owes(number));
        }
    }

    private static void renew() {
        PawnRack rack = Checks.rackWith(100);
        rack.pledge(0, 0, 200, 3); // a loan of 120, and 6 for each 30 days
        rack.pass(35);
        Checks.same("two times 6", rack.renew(0), 12);
        Checks.same("due 60 days from now", rack.ticket(0, 5), 95);
        Checks.same("renewed once", rack.ticket(0, 10), 1);
        Checks.same("the interest begins anew", rack.owes(0), 126);
        Checks.same("coins of the customer", rack.customer(0, 0), 208);
        Checks.same("coins of the broker", rack.count(1), 292);
        Checks.same("interest paid", rack.count(10), 12);
        Checks.same("trust is as it was", rack.customer(0, 1), 5);
        rack.pass(29);
        Checks.same("still the first 30 days", rack.owes(0), 126);
        rack.pass(1);
        Checks.same("the next 30 days", rack.owes(0), 132);
        rack.pass(31);
        Checks.same("held on the day 96, the day of its sale", rack.ticket(0, 6), 0);
        Checks.same("three times 6", rack.renew(0), 18);
        Checks.same("due on", rack.ticket(0, 5), 156);
        Checks.same("renewed on the same day", rack.renew(0), 6);
        Checks.same("interest paid", rack.count(10), 36);
        Checks.same("renewed 3 times", rack.ticket(0, 10), 3);
        Checks.refuses(rack, "a fourth time", Checks.STATE, () -> rack.renew(0));
        Checks.same("can still be fetched", rack.fetch(0), 126);
        Checks.same("interest paid", rack.count(10), 42);
    }

    private static void renewNeedsCoins() {
        PawnRack poor = Checks.rackWith(0);
        poor.pledge(0, 0, 2, 1);
        poor.pledge(0, 0, 2, 1);
        Checks.same("two coins", poor.customer(0, 0), 2);
        poor.pass(60);
        Checks.refuses(poor, "three coins of interest with two", Checks.STATE, () -> poor.renew(0));
        poor.earn(0, 1);
        Checks.same("three with three", poor.renew(0), 3);
        Checks.same("no coins left", poor.customer(0, 0), 0);
        Checks.refuses(poor, "one coin of interest without coins", Checks.STATE, () -> poor.renew(0));
    }

    private static void renewRefuses() {
        PawnRack rack = Checks.rackWith(1000);
        Checks.refuses(rack, "renew without tickets", Checks.INDEX, () -> rack.renew(0));
        rack.pledge(0, 0, 100, 1);
        rack.pledge(0, 1, 100, 1);
        for (int number : new int[] {-1, 2, 40, Integer.MIN_VALUE, Integer.MAX_VALUE}) {
            Checks.refuses(rack, "renew(" + number + ")", Checks.INDEX, () -> rack.renew(number));
        }
        rack.pledge(0, 0, 10, 1);
        rack.fetch(2);
        Checks.refuses(rack, "renew what was fetched", Checks.STATE, () -> rack.renew(2));
        rack.pass(62);
        Checks.refuses(rack, "renew what is for sale", Checks.STATE, () -> rack.renew(0));
        rack.setBuyer(62 % 7, 0, 500);
        rack.pass(1);
        Checks.same("sold", rack.ticket(0, 6), 3);
        Checks.refuses(rack, "renew what was sold", Checks.STATE, () -> rack.renew(0));
    }

    private static void fetch() {
        PawnRack rack = Checks.rackWith(100, 40);
        rack.pledge(0, 0, 100, 4); // 63 on the first days
        rack.pledge(1, 0, 50, 4);  // 31 on the first days
        Checks.same("fetch(1)", rack.fetch(1), 31);
        Checks.same("coins of 1", rack.customer(1, 0), 40 + 30 - 31);
        Checks.same("trust of 1", rack.customer(1, 1), 6);
        Checks.same("trust of 0", rack.customer(0, 1), 5);
        Checks.same("coins of the broker", rack.count(1), 400 - 60 - 30 + 31);
        Checks.same("interest paid", rack.count(10), 1);
        Checks.same("its place is free", rack.at(0, 4), -1);
        Checks.same("the other lies", rack.at(0, 3), 0);
        Checks.same("the state", rack.ticket(1, 6), 1);
        Checks.same("places taken", rack.count(8), 4);
        rack.pass(60);
        Checks.same("fetch on the due day", rack.fetch(0), 60 + 9);
        Checks.same("interest paid", rack.count(10), 10);
        for (int trust = 6; trust <= 10; trust++) {
            Checks.same("trust", rack.customer(0, 1), trust);
            rack.fetch(rack.pledge(0, 0, 1, 1));
        }
        Checks.same("no trust above 10", rack.customer(0, 1), 10);
    }

    private static void fetchNeedsCoins() {
        PawnRack rack = Checks.rackWith(0);
        rack.pledge(0, 0, 100, 1);
        Checks.refuses(rack, "63 with 60", Checks.STATE, () -> rack.fetch(0));
        rack.earn(0, 2);
        Checks.refuses(rack, "63 with 62", Checks.STATE, () -> rack.fetch(0));
        rack.earn(0, 1);
        Checks.same("63 with 63", rack.fetch(0), 63);
        Checks.same("no coins left", rack.customer(0, 0), 0);
    }

    private static void fetchAfterTheDueDay() {
        PawnRack rack = Checks.rackWith(100);
        rack.pledge(0, 0, 100, 1);
        rack.pledge(0, 0, 100, 1);
        rack.pass(61);
        Checks.same("held until the day 61 has gone", rack.fetch(0), 69);
        rack.pass(1);
        Checks.refuses(rack, "for sale then", Checks.STATE, () -> rack.fetch(1));
    }

    private static void fetchRefuses() {
        PawnRack rack = Checks.rackWith(1000);
        Checks.refuses(rack, "fetch without tickets", Checks.INDEX, () -> rack.fetch(0));
        rack.pledge(0, 0, 100, 1);
        rack.pledge(0, 1, 100, 1);
        for (int number : new int[] {-1, 2, 40, Integer.MIN_VALUE, Integer.MAX_VALUE}) {
            Checks.refuses(rack, "fetch(" + number + ")", Checks.INDEX, () -> rack.fetch(number));
        }
        rack.pledge(0, 0, 10, 1);
        rack.fetch(2);
        Checks.refuses(rack, "fetch what was fetched", Checks.STATE, () -> rack.fetch(2));
        rack.pass(62);
        Checks.refuses(rack, "fetch what is for sale", Checks.STATE, () -> rack.fetch(0));
        rack.setBuyer(62 % 7, 0, 500);
        rack.pass(1);
        Checks.refuses(rack, "fetch what was sold", Checks.STATE, () -> rack.fetch(0));
    }
}
