import java.math.BigInteger;

/** Promises 16 to 21: foresee, raise, best, most, fetched, digest. */
public final class OutlookTest {
    public static void main(String[] args) {
        foresee();
        foreseeIsWhatPassDoes();
        foreseeRefuses();
        raise();
        raiseRefuses();
        best();
        bestBelowZero();
        bestRefuses();
        most();
        mostWithoutCoins();
        mostRefuses();
        fetched();
        fetchedWithoutFetching();
        digest();
        digestWrapsAround();
        Checks.end();
    }

    private static void foresee() {
        PawnRack rack = Checks.rackWith(0);
        rack.pledge(0, 0, 100, 5); // a loan of 60
        rack.pledge(0, 1, 10, 5);  // a loan of 6
        rack.setBuyer(0, 0, 80);
        long before = Checks.fingerprint(rack);
        outlook(rack, 1, 334, 0, 0);
        outlook(rack, 61, 334, 0, 0);
        outlook(rack, 62, 334, 0, 2);
        outlook(rack, 63, 334, 0, 2);
        outlook(rack, 64, 334, 0, 2);  // 90 on the day 63, which is too dear
        outlook(rack, 70, 334, 0, 2);
        outlook(rack, 71, 389, 1, 1);  // 55 on the day 70
        outlook(rack, 200, 389, 1, 1);
        Checks.same("nothing is changed", Checks.fingerprint(rack), before);
        rack.pass(71);
        outlook(rack, 200, 389, 0, 1);
        Checks.same("what was foreseen", rack.count(1), 389);
    }

    private static void outlook(PawnRack rack, int days, int coins, int sold, int forSale) {
        Checks.same("foresee(" + days + ", 0)", rack.foresee(days, 0), coins);
        Checks.same("foresee(" + days + ", 1)", rack.foresee(days, 1), sold);
        Checks.same("foresee(" + days + ", 2)", rack.foresee(days, 2), forSale);
    }

    /** Each object is asked ahead of the days; the answers of another object are no matter. */
    private static void foreseeIsWhatPassDoes() {
        for (int days = 1; days <= 200; days++) {
            PawnRack rack = Checks.rackWith(100, 50);
            for (int i = 0; i < 12; i++) {
                rack.pledge(i % 2, i % 5, 5 + 6 * i, 1 + i % 7);
                rack.pass(1 + i);
            }
            for (int weekday = 0; weekday < 6; weekday++) {
                rack.setBuyer(weekday, (weekday + 2) % 5, 10 + 7 * weekday);
            }
            long before = Checks.fingerprint(rack);
            int coins = rack.foresee(days, 0);
            int sold = rack.foresee(days, 1);
            int forSale = rack.foresee(days, 2);
            Checks.same("nothing is changed", Checks.fingerprint(rack), before);
            Checks.same("sold in " + days, rack.pass(days), sold);
            Checks.same("coins after " + days, rack.count(1), coins);
            Checks.same("for sale after " + days, rack.count(6), forSale);
        }
    }

    private static void foreseeRefuses() {
        PawnRack rack = Checks.rackWith(100);
        for (int days : new int[] {-1, 0, 201, Integer.MIN_VALUE, Integer.MAX_VALUE}) {
            Checks.refuses(rack, "foresee(" + days + ", 0)", Checks.ARGUMENT, () -> rack.foresee(days, 0));
            Checks.refuses(rack, "foresee(" + days + ", 3)", Checks.ARGUMENT, () -> rack.foresee(days, 3));
        }
        for (int what : new int[] {-1, 3, Integer.MIN_VALUE, Integer.MAX_VALUE}) {
            Checks.refuses(rack, "foresee(1, " + what + ")", Checks.INDEX, () -> rack.foresee(1, what));
        }
    }

    private static void raise() {
        PawnRack rack = Checks.rackWith(0);
        for (int value : new int[] {7, 19, 1, 12, 19, 3}) {
            rack.pledge(0, 0, value, 1);
        }
        Checks.same("held things raise nothing", rack.raise(1), -1);
        rack.pass(62);
        int[][] due = {{1, 1}, {19, 1}, {20, 2}, {38, 2}, {39, 3}, {50, 3}, {51, 4}, {57, 4}, {58, 5}, {60, 5}, {61, 6},
            {62, -1}, {Integer.MAX_VALUE, -1}};
        for (int[] row : due) {
            Checks.same("raise(" + row[0] + ")", rack.raise(row[0]), row[1]);
        }
        rack.setBuyer(62 % 7, 0, 500);
        rack.pass(1);
        Checks.same("sold things raise nothing", rack.raise(43), -1);
        Checks.same("all of the rest", rack.raise(42), 5);
        PawnRack many = Checks.rackWith(0);
        for (int i = 0; i < 40; i++) {
            many.pledge(0, 0, 1, 1);
        }
        many.pass(62);
        Checks.same("all 40", many.raise(40), 40);
        Checks.same("more than all 40", many.raise(41), -1);
        PawnRack falling = Checks.rackWith(0);
        falling.pledge(0, 0, 100, 1);
        falling.pass(62);
        Checks.same("100 now", falling.raise(100), 1);
        falling.pass(1);
        Checks.same("95 now", falling.raise(96), -1);
        Checks.same("just 95", falling.raise(95), 1);
    }

    private static void raiseRefuses() {
        PawnRack rack = Checks.rackWith(0);
        rack.pledge(0, 0, 100, 1);
        rack.pass(62);
        for (int coins : new int[] {0, -1, Integer.MIN_VALUE}) {
            Checks.refuses(rack, "raise(" + coins + ")", Checks.ARGUMENT, () -> rack.raise(coins));
        }
    }

    private static void best() {
        PawnRack rack = Checks.rackWith(0, 2000, 0);
        rack.pledge(0, 0, 40, 1);  // 25 is owed: 15 more
        rack.pledge(1, 0, 300, 1); // 189 is owed: 111 more
        rack.pledge(0, 0, 60, 1);  // 37 is owed: 23 more
        rack.pledge(0, 0, 60, 1);  // 37 is owed: 23 more
        rack.pledge(0, 0, 150, 1); // 94 is owed: 56 more
        Checks.same("the most above", rack.best(0), 4);
        Checks.same("of another", rack.best(1), 1);
        Checks.same("none is held", rack.best(2), -1);
        rack.fetch(4);
        Checks.same("the smallest number of equal ones", rack.best(0), 2);
        rack.fetch(2);
        Checks.same("coins", rack.customer(0, 0), 24 + 36 + 36 + 90 - 94 - 37);
        Checks.same("still coins", rack.best(0), 3);
        rack.fetch(3);
        Checks.same("not enough coins", rack.best(0), -1);
        rack.earn(0, 6);
        Checks.same("24 for 25", rack.best(0), -1);
        rack.earn(0, 1);
        Checks.same("25 for 25", rack.best(0), 0);
        rack.pass(62);
        Checks.same("for sale", rack.best(0), -1);
    }

    private static void bestBelowZero() {
        PawnRack rack = Checks.rackWith(100);
        rack.pledge(0, 0, 1, 1); // a loan of 1, and 1 more for each 30 days
        Checks.same("1 below", rack.best(0), 0);
        rack.pass(30);
        rack.pledge(0, 0, 1, 1);
        Checks.same("1 below rather than 2", rack.best(0), 1);
        rack.pledge(0, 0, 2, 1);
        Checks.same("0 rather than 1 below", rack.best(0), 2);
        PawnRack poor = Checks.rackWith(0);
        poor.pledge(0, 0, 100, 1);
        poor.pledge(0, 0, 3, 1);
        poor.fetch(1);
        Checks.same("59 for 63", poor.best(0), -1);
        poor.pledge(0, 0, 1, 1);
        Checks.same("below 0, but the only one", poor.best(0), 2);
    }

    private static void bestRefuses() {
        PawnRack rack = Checks.rackWith(0);
        for (int customer : new int[] {-1, 1, 10, Integer.MIN_VALUE, Integer.MAX_VALUE}) {
            Checks.refuses(rack, "best(" + customer + ")", Checks.INDEX, () -> rack.best(customer));
        }
    }

    private static void most() {
        PawnRack rack = Checks.rackWith(0, 1000, 3);
        rack.pledge(0, 0, 200, 1); // 126 is owed
        rack.pledge(0, 0, 40, 1);  // 25 is owed
        rack.pledge(1, 0, 20, 1);  // 13 is owed
        rack.pledge(0, 0, 20, 1);  // 13 is owed
        rack.pledge(0, 0, 100, 1); // 63 is owed
        Checks.same("216 coins, 227 owed", rack.customer(0, 0), 216);
        Checks.same("the cheap ones", rack.most(0), 3);
        rack.earn(0, 10);
        Checks.same("226 coins", rack.most(0), 3);
        rack.earn(0, 1);
        Checks.same("227 coins", rack.most(0), 4);
        Checks.same("of another", rack.most(1), 1);
        Checks.same("none is held", rack.most(2), 0);
        rack.pass(30);
        Checks.same("more is owed", rack.most(0), 3);
        rack.fetch(0);
        Checks.same("coins", rack.customer(0, 0), 95);
        Checks.same("26 and 14, but not 66", rack.most(0), 2);
        rack.earn(0, 11);
        Checks.same("all of them", rack.most(0), 3);
        rack.pass(32);
        Checks.same("for sale", rack.most(0), 0);
        mostWhereTheDearOneStandsFirst();
        PawnRack many = Checks.rackWith(0);
        for (int i = 0; i < 40; i++) {
            many.pledge(0, 0, 1, 1);
        }
        Checks.same("2 for each of 40 coins", many.most(0), 20);
        many.earn(0, 1000);
        Checks.same("all 40", many.most(0), 40);
    }

    private static void mostWhereTheDearOneStandsFirst() {
        PawnRack rack = Checks.rackWith(0);
        rack.pledge(0, 0, 300, 1); // 189 is owed
        rack.pledge(0, 0, 100, 1); // 63 is owed
        rack.pledge(0, 0, 40, 1);  // 25 is owed
        rack.pledge(0, 0, 20, 1);  // 13 is owed
        rack.fetch(0);
        rack.fetch(3);
        Checks.same("coins", rack.customer(0, 0), 276 - 189 - 13);
        rack.pledge(0, 0, 2, 1);   // 2 is owed
        rack.renew(1);
        rack.renew(1);
        rack.renew(1);
        rack.renew(2);
        rack.renew(2);
        rack.renew(2);
        Checks.same("coins", rack.customer(0, 0), 74 + 1 - 9 - 3);
        Checks.same("63 coins for 63, 25 and 2", rack.most(0), 2);
    }

    private static void mostWithoutCoins() {
        PawnRack rack = Checks.rackWith(0, 0);
        rack.pledge(0, 0, 2, 1); // a loan of 1, and 1 more for each 30 days
        Checks.same("1 for 2", rack.most(0), 0);
        rack.renew(0);
        Checks.same("no coins", rack.customer(0, 0), 0);
        Checks.same("0 for 2", rack.most(0), 0);
        Checks.same("0 for 2: none is best", rack.best(0), -1);
        rack.earn(0, 2);
        Checks.same("2 for 2", rack.most(0), 1);
        Checks.same("2 for 2: the best", rack.best(0), 0);
        Checks.same("no coins, no tickets", rack.most(1), 0);
        Checks.same("no coins, no tickets: none is best", rack.best(1), -1);
    }

    private static void mostRefuses() {
        PawnRack rack = Checks.rackWith(0);
        for (int customer : new int[] {-1, 1, 10, Integer.MIN_VALUE, Integer.MAX_VALUE}) {
            Checks.refuses(rack, "most(" + customer + ")", Checks.INDEX, () -> rack.most(customer));
        }
    }

    private static void fetched() {
        PawnRack rack = Checks.rackWith(1000);
        for (int i = 0; i < 8; i++) {
            rack.pledge(0, i % 2, 10, 1);
        }
        Checks.sameDouble("only held ones", rack.fetched(), 0.0);
        rack.fetch(0);
        Checks.sameDouble("all", rack.fetched(), 1.0);
        rack.fetch(1);
        rack.renew(7);
        rack.pass(50);
        rack.renew(7);
        rack.pass(12);
        Checks.sameDouble("five for sale", rack.fetched(), 2.0 / 7);
        rack.setBuyer(62 % 7, 0, 500);
        rack.pass(1);
        Checks.same("one sold", rack.count(7), 1);
        Checks.sameDouble("four for sale, one sold", rack.fetched(), 2.0 / 7);
        rack.fetch(7);
        Checks.sameDouble("one more", rack.fetched(), 3.0 / 8);
    }

    private static void fetchedWithoutFetching() {
        PawnRack rack = Checks.rackWith(0);
        rack.pledge(0, 0, 10, 1);
        rack.pass(62);
        Checks.sameDouble("only one for sale", rack.fetched(), 0.0);
        rack.setBuyer(62 % 7, 0, 500);
        rack.pass(1);
        Checks.sameDouble("only one sold", rack.fetched(), 0.0);
        rack.pledge(0, 0, 10, 1);
        Checks.sameDouble("held ones are not counted", rack.fetched(), 0.0);
        rack.earn(0, 10);
        rack.fetch(1);
        Checks.sameDouble("a half", rack.fetched(), 0.5);
        rack.pledge(0, 0, 10, 1);
        rack.pass(62);
        Checks.sameDouble("a third", rack.fetched(), 1.0 / 3);
    }

    /** One object for each stage, since to work out its digest takes many calls. */
    private static void digest() {
        for (int stage = 0; stage <= 50; stage++) {
            int[][] buyers = {{-1, 0}, {-1, 0}, {-1, 0}, {-1, 0}, {-1, 0}, {-1, 0}, {-1, 0}};
            PawnRack rack = atStage(stage, buyers);
            long digest = rack.digest();
            Checks.same("digest at the stage " + stage, digest, digestOf(rack, buyers));
            Checks.same("digest once more", rack.digest(), digest);
        }
    }

    private static PawnRack atStage(int stage, int[][] buyers) {
        PawnRack rack = stage == 0 ? Checks.rackWith() : Checks.rackWith(100, 2000);
        for (int i = 0; i < 9 && i < stage; i++) {
            rack.pledge(i % 2, i % 5, 3 + 9 * i, 1 + i);
        }
        for (int weekday = 0; weekday < 7 && weekday < stage - 9; weekday += 2) {
            rack.setBuyer(weekday, weekday % 5, 50 * weekday);
            buyers[weekday] = new int[] {weekday % 5, 50 * weekday};
        }
        if (stage >= 17) {
            rack.setBuyer(2, -1, 400);
            buyers[2] = new int[] {-1, 0};
            rack.pass(25);
            rack.fetch(3);
            rack.renew(4);
            rack.tidy();
        }
        for (int i = 17; i < stage; i++) {
            rack.pass(4);
        }
        return rack;
    }

    private static long digestOf(PawnRack rack, int[][] buyers) {
        long d = 719;
        for (int what = 0; what <= 10; what++) {
            d = 31 * d + rack.count(what);
        }
        for (int[] buyer : buyers) {
            d = 31 * d + buyer[0];
            d = 31 * d + buyer[1];
        }
        for (int customer = 0; customer < rack.count(2); customer++) {
            for (int what = 0; what <= 4; what++) {
                d = 31 * d + rack.customer(customer, what);
            }
        }
        for (int ticket = 0; ticket < rack.count(3); ticket++) {
            for (int what = 0; what <= 10; what++) {
                d = 31 * d + rack.ticket(ticket, what);
            }
            d = 31 * d + rack.owes(ticket);
        }
        return d;
    }

    /** The exact number has far more than 64 bits; the last 64 of them are the digest. */
    private static void digestWrapsAround() {
        PawnRack empty = new PawnRack();
        int[] told = {0, 400, 0, 0, 0, 0, 0, 0, 0, 0, 0, -1, 0, -1, 0, -1, 0, -1, 0, -1, 0, -1, 0, -1, 0};
        wraps("of a new object", empty, told);
        PawnRack rack = Checks.rackWith(2000);
        rack.pledge(0, 4, 500, 10);
        rack.setBuyer(6, 3, 500);
        int[] more = {0, 100, 1, 1, 1, 0, 0, 0, 10, 300, 0, -1, 0, -1, 0, -1, 0, -1, 0, -1, 0, -1, 0, 3, 500,
            2300, 5, 1, 315, 0, 0, 4, 500, 10, 300, 60, 0, 0, 0, 0, 0, 315};
        wraps("with a ticket", rack, more);
    }

    private static void wraps(String what, PawnRack rack, int[] told) {
        BigInteger exact = BigInteger.valueOf(719);
        for (int number : told) {
            exact = exact.multiply(BigInteger.valueOf(31)).add(BigInteger.valueOf(number));
        }
        Checks.same("the exact digest " + what + " is longer than 64 bits", exact.bitLength() > 64 ? 1 : 0, 1);
        Checks.same("the digest " + what, rack.digest(), exact.longValue());
    }
}
