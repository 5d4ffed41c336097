/** Promises 14 and 15: pass and count; and how a day goes. */
public final class DaysTest {
    public static void main(String[] args) {
        pass();
        passRefuses();
        goesForSaleBehindTheDueDay();
        pricesFall();
        leastPrices();
        onlyOlderOffersFall();
        soldOnTheFirstDay();
        soldAtTheFallenPrice();
        soldAtTheLeastPrice();
        theBuyerOfTheWeekday();
        theDearestWithinThePurse();
        theDearestByItsPrice();
        theSmallestNumberOfEqualOnes();
        theSmallestNumberWhateverTheValue();
        oneThingADay();
        thePurseIsFullEachDay();
        trustFalls();
        trustAtItsEnds();
        count();
        countRefuses();
        Checks.end();
    }

    private static void pass() {
        PawnRack rack = Checks.rackWith(100);
        Checks.same("pass(1)", rack.pass(1), 0);
        Checks.same("the day 1", rack.count(0), 1);
        Checks.same("pass(200)", rack.pass(200), 0);
        Checks.same("the day 201", rack.count(0), 201);
        for (int i = 0; i < 3; i++) {
            rack.pledge(0, i, 20, 3);
        }
        for (int weekday = 0; weekday < 7; weekday++) {
            rack.setBuyer(weekday, weekday % 2, 20);
        }
        Checks.same("sold in 200 days", rack.pass(200), 2);
        Checks.same("sold in the next", rack.pass(200), 0);
        Checks.same("the day 601", rack.count(0), 601);
        rack.setBuyer(2, 2, 20);
        Checks.same("the last one", rack.pass(200), 1);
    }

    private static void passRefuses() {
        PawnRack rack = Checks.rackWith(100);
        rack.pledge(0, 0, 50, 2);
        for (int days : new int[] {-1, 0, 201, Integer.MIN_VALUE, Integer.MAX_VALUE}) {
            Checks.refuses(rack, "pass(" + days + ")", Checks.ARGUMENT, () -> rack.pass(days));
        }
    }

    private static void goesForSaleBehindTheDueDay() {
        PawnRack rack = Checks.rackWith(100);
        rack.pass(3);
        rack.pledge(0, 0, 50, 2);
        rack.pass(60);
        state(rack, 0, 0, 0);
        rack.pass(1);
        state(rack, 0, 0, 0);
        Checks.same("the day 64 is not yet gone", rack.count(0), 64);
        rack.pass(1);
        state(rack, 0, 2, 50);
        rack.pledge(0, 0, 50, 2);
        rack.pass(20);
        rack.renew(1);
        rack.pass(61);
        state(rack, 1, 0, 0);
        rack.pass(1);
        state(rack, 1, 2, 50);
    }

    private static void state(PawnRack rack, int ticket, int state, int price) {
        Checks.same("state of " + ticket + " on the day " + rack.count(0), rack.ticket(ticket, 6), state);
        Checks.same("price of " + ticket + " on the day " + rack.count(0), rack.ticket(ticket, 9), price);
    }

    private static void pricesFall() {
        PawnRack rack = Checks.rackWith(0);
        int[] values = {479, 100, 39, 20, 19, 1};
        int[] fall = {23, 5, 1, 1, 0, 0};
        int[] least = {143, 30, 11, 6, 5, 0};
        for (int value : values) {
            rack.pledge(0, 0, value, 2);
        }
        rack.pass(62);
        for (int days = 0; days < 40; days++) {
            for (int i = 0; i < values.length; i++) {
                int due = Math.max(values[i] - days * fall[i], least[i]);
                Checks.same("price of " + i + " after " + days + " days", rack.ticket(i, 9), due);
            }
            rack.pass(1);
        }
        Checks.same("not below the least", rack.ticket(0, 9), 143);
        Checks.same("what does not fall", rack.ticket(4, 9), 19);
        Checks.same("the value of 1", rack.ticket(5, 9), 1);
    }

    /** For each value the price stops at value * 3 / 10, or falls by nothing. */
    private static void leastPrices() {
        for (int value = 1; value <= 500; value++) {
            PawnRack rack = Checks.rackWith(0);
            rack.pledge(0, 0, value, 1);
            rack.pass(62);
            Checks.same("first price of " + value, rack.ticket(0, 9), value);
            rack.pass(3);
            Checks.same("price of " + value + " after 3 days", rack.ticket(0, 9), value - 3 * (value / 20));
            rack.pass(100);
            Checks.same("last price of " + value, rack.ticket(0, 9), value < 20 ? value : value * 3 / 10);
        }
    }

    /** On the day on which one goes for sale, only those fall that are for sale since an earlier day. */
    private static void onlyOlderOffersFall() {
        PawnRack rack = Checks.rackWith(0);
        rack.pledge(0, 0, 100, 1);
        rack.pass(1);
        rack.pledge(0, 0, 100, 1);
        rack.pass(1);
        rack.pledge(0, 0, 100, 1);
        rack.pass(61);
        state(rack, 0, 2, 95);
        state(rack, 1, 2, 100);
        state(rack, 2, 0, 0);
        rack.pass(1);
        state(rack, 0, 2, 90);
        state(rack, 1, 2, 95);
        state(rack, 2, 2, 100);
    }

    private static void soldOnTheFirstDay() {
        PawnRack rack = Checks.rackWith(0);
        rack.pledge(0, 3, 100, 5);
        rack.setBuyer(61 % 7, 3, 100);
        Checks.same("nothing is sold up to the day 60", rack.pass(61), 0);
        Checks.same("sold on the day 61", rack.pass(1), 1);
        state(rack, 0, 3, 100);
        Checks.same("the broker has the price", rack.count(1), 440);
        Checks.same("the customer has nothing of it", rack.customer(0, 0), 60);
        Checks.same("its place is free", rack.count(8), 0);
    }

    /** On the day 62 what was offered at 100 costs 95, which has to be at most the purse. */
    private static void soldAtTheFallenPrice() {
        PawnRack poor = Checks.rackWith(0);
        poor.pledge(0, 0, 100, 1);
        poor.setBuyer(62 % 7, 0, 94);
        Checks.same("94 for 95", poor.pass(63), 0);
        state(poor, 0, 2, 95);
        PawnRack rack = Checks.rackWith(0);
        rack.pledge(0, 0, 100, 1);
        rack.setBuyer(62 % 7, 0, 95);
        Checks.same("95 for 95", rack.pass(63), 1);
        state(rack, 0, 3, 95);
        Checks.same("the broker has the fallen price", rack.count(1), 340 + 95);
        rack.pass(30);
        state(rack, 0, 3, 95);
    }

    private static void soldAtTheLeastPrice() {
        PawnRack rack = Checks.rackWith(0);
        rack.pledge(0, 0, 109, 1); // from 109 down to 32, by 5 each day
        rack.pass(62 + 15);
        state(rack, 0, 2, 34);
        rack.pass(1);
        state(rack, 0, 2, 32);
        for (int weekday = 0; weekday < 7; weekday++) {
            rack.setBuyer(weekday, 0, 31);
        }
        Checks.same("31 for 32", rack.pass(200), 0);
        state(rack, 0, 2, 32);
        for (int weekday = 0; weekday < 7; weekday++) {
            rack.setBuyer(weekday, 0, 32);
        }
        Checks.same("32 for 32", rack.pass(1), 1);
        state(rack, 0, 3, 32);
    }

    private static void theBuyerOfTheWeekday() {
        for (int weekday = 0; weekday < 7; weekday++) {
            PawnRack rack = Checks.rackWith(0);
            rack.pledge(0, 1, 10, 1);
            rack.pledge(0, 2, 10, 1);
            rack.pass(70);
            Checks.same("a Monday of ours", rack.count(0) % 7, 0);
            rack.setBuyer(weekday, 2, 10);
            Checks.same("ahead of the weekday", weekday == 0 ? 0 : rack.pass(weekday), 0);
            Checks.same("on the weekday", rack.pass(1), 1);
            Checks.same("of the kind", rack.ticket(1, 6), 3);
            Checks.same("not of another kind", rack.pass(14), 0);
            rack.setBuyer(weekday, -1, 500);
            Checks.same("no buyer", rack.pass(14), 0);
        }
    }

    private static void theDearestWithinThePurse() {
        PawnRack rack = Checks.rackWith(0);
        rack.pledge(0, 0, 10, 1);
        rack.pledge(0, 0, 19, 1);
        rack.pledge(0, 0, 18, 1);
        rack.pledge(0, 1, 17, 1);
        rack.pass(70);
        rack.setBuyer(0, 0, 18);
        Checks.same("sold", rack.pass(7), 1);
        state(rack, 2, 3, 18);
        Checks.same("sold", rack.pass(7), 1);
        state(rack, 0, 3, 10);
        Checks.same("too dear", rack.pass(7), 0);
        state(rack, 1, 2, 19);
        rack.setBuyer(0, 0, 0);
        Checks.same("an empty purse", rack.pass(7), 0);
        rack.setBuyer(0, 0, 19);
        Checks.same("just enough", rack.pass(7), 1);
    }

    /** What is worth more, but has fallen, is not the dearest. */
    private static void theDearestByItsPrice() {
        PawnRack rack = Checks.rackWith(0);
        rack.pledge(0, 0, 100, 1);
        rack.pass(9);
        rack.pledge(0, 0, 56, 1);
        rack.pass(61);
        rack.setBuyer(70 % 7, 0, 500);
        Checks.same("one is sold", rack.pass(1), 1);
        state(rack, 0, 2, 55);
        state(rack, 1, 3, 56);
    }

    private static void theSmallestNumberWhateverTheValue() {
        PawnRack rack = Checks.rackWith(0);
        rack.pledge(0, 0, 100, 1);
        rack.pass(9);
        rack.pledge(0, 0, 55, 1);
        rack.pass(61);
        rack.setBuyer(70 % 7, 0, 500);
        rack.pass(1);
        state(rack, 0, 3, 55);
        state(rack, 1, 2, 55);
        PawnRack turned = Checks.rackWith(0);
        turned.pledge(0, 0, 55, 1);
        turned.pledge(0, 0, 100, 1);
        turned.pass(9);
        turned.renew(0);
        turned.pass(61);
        turned.setBuyer(70 % 7, 0, 500);
        turned.pass(1);
        state(turned, 0, 3, 55);
        state(turned, 1, 2, 55);
    }

    private static void theSmallestNumberOfEqualOnes() {
        PawnRack rack = Checks.rackWith(0);
        rack.pledge(0, 0, 5, 1);
        rack.pledge(0, 0, 19, 1);
        rack.pledge(0, 0, 19, 1);
        rack.pledge(0, 0, 19, 1);
        rack.pass(70);
        rack.setBuyer(0, 0, 500);
        for (int ticket = 1; ticket <= 3; ticket++) {
            rack.pass(7);
            state(rack, ticket, 3, 19);
            Checks.same("sold by now", rack.count(7), ticket);
        }
        rack.pass(7);
        state(rack, 0, 3, 5);
    }

    private static void oneThingADay() {
        PawnRack rack = Checks.rackWith(0);
        for (int i = 0; i < 5; i++) {
            rack.pledge(0, 0, 10, 1);
        }
        rack.setBuyer(0, 0, 500);
        Checks.same("days 63 and 70", rack.pass(71), 2);
        Checks.same("up to 76", rack.pass(6), 0);
        Checks.same("day 77", rack.pass(1), 1);
    }

    private static void thePurseIsFullEachDay() {
        PawnRack rack = Checks.rackWith(0);
        for (int i = 0; i < 5; i++) {
            rack.pledge(0, 0, 10, 1);
        }
        for (int weekday = 0; weekday < 7; weekday++) {
            rack.setBuyer(weekday, 0, 10);
        }
        rack.pass(61);
        for (int sold = 1; sold <= 5; sold++) {
            Checks.same("each day one", rack.pass(1), 1);
            Checks.same("coins of the broker", rack.count(1), 400 - 5 * 6 + 10 * sold);
        }
        Checks.same("none is left", rack.pass(1), 0);
    }

    private static void trustFalls() {
        PawnRack rack = Checks.rackWith(500, 500);
        rack.pledge(0, 0, 10, 1);
        rack.pass(1);
        rack.pledge(0, 0, 10, 1);
        rack.pledge(0, 0, 10, 1);
        rack.pledge(1, 0, 10, 1);
        rack.pledge(1, 0, 10, 1);
        rack.fetch(4);
        rack.pass(61);
        Checks.same("2 less", rack.customer(0, 1), 3);
        Checks.same("not yet", rack.customer(1, 1), 6);
        rack.pass(1);
        Checks.same("not below 0", rack.customer(0, 1), 0);
        Checks.same("2 less for one that was not fetched", rack.customer(1, 1), 4);
        rack.pass(100);
        Checks.same("only once", rack.customer(1, 1), 4);
    }

    private static void trustAtItsEnds() {
        PawnRack rack = Checks.rackWith(2000);
        for (int i = 0; i < 6; i++) {
            rack.fetch(rack.pledge(0, 0, 1, 1));
        }
        Checks.same("not above 10", rack.customer(0, 1), 10);
        leave(rack, 1);
        Checks.same("2 less than 10", rack.customer(0, 1), 8);
        leave(rack, 4);
        Checks.same("just 0", rack.customer(0, 1), 0);
        leave(rack, 1);
        Checks.same("not below 0", rack.customer(0, 1), 0);
        rack.fetch(rack.pledge(0, 0, 1, 1));
        Checks.same("1 more than 0", rack.customer(0, 1), 1);
        leave(rack, 1);
        Checks.same("0 from 1", rack.customer(0, 1), 0);
    }

    private static void leave(PawnRack rack, int things) {
        for (int i = 0; i < things; i++) {
            rack.pledge(0, 0, 1, 1);
        }
        rack.pass(62);
    }

    private static void count() {
        PawnRack rack = Checks.rackWith(100, 200, 300);
        rack.pledge(0, 0, 100, 10); // a loan of 60
        rack.pledge(1, 1, 50, 9);   // a loan of 30
        rack.pledge(1, 2, 20, 3);   // a loan of 12
        rack.pledge(2, 3, 10, 2);   // a loan of 6
        tells(rack, 0, 292, 3, 4, 4, 0, 0, 0, 24, 108, 0);
        rack.pass(30);
        rack.fetch(2);
        rack.renew(1);
        tells(rack, 30, 292 + 14 + 2, 3, 4, 3, 1, 0, 0, 21, 96, 4);
        rack.pass(32);
        tells(rack, 62, 308, 3, 4, 1, 1, 2, 0, 21, 30, 4);
        rack.setBuyer(62 % 7, 3, 500);
        Checks.same("sold", rack.pass(1), 1);
        tells(rack, 63, 318, 3, 4, 1, 1, 1, 1, 19, 30, 4);
        rack.fetch(1);
        tells(rack, 63, 318 + 32, 3, 4, 0, 2, 1, 1, 10, 0, 6);
    }

    private static void tells(PawnRack rack, int... due) {
        for (int what = 0; what < due.length; what++) {
            Checks.same("count(" + what + ") on the day " + due[0], rack.count(what), due[what]);
        }
    }

    private static void countRefuses() {
        PawnRack rack = Checks.rackWith(100);
        for (int what : new int[] {-1, 11, Integer.MIN_VALUE, Integer.MAX_VALUE}) {
            Checks.refuses(rack, "count(" + what + ")", Checks.INDEX, () -> rack.count(what));
        }
    }
}
