/** Promises 1 to 5: a new object, come, earn, setBuyer, customer. */
public final class CustomersTest {
    public static void main(String[] args) {
        newObject();
        newObjectsAreApart();
        come();
        comeRefuses();
        theTenthCustomer();
        earn();
        earnRefuses();
        setBuyer();
        setBuyerRefuses();
        customer();
        customerWithoutTickets();
        customerRefuses();
        Checks.end();
    }

    private static void newObject() {
        PawnRack rack = new PawnRack();
        int[] counts = {0, 400, 0, 0, 0, 0, 0, 0, 0, 0, 0};
        for (int what = 0; what < counts.length; what++) {
            Checks.same("new: count(" + what + ")", rack.count(what), counts[what]);
        }
        for (int shelf = 0; shelf < 3; shelf++) {
            for (int place = 0; place < 10 + 10 * shelf; place++) {
                Checks.same("new: at(" + shelf + ", " + place + ")", rack.at(shelf, place), -1);
            }
        }
        Checks.same("new: room(1)", rack.room(1), 0);
        Checks.same("new: room(10)", rack.room(10), 0);
        Checks.same("new: tidy", rack.tidy(), 0);
        Checks.same("new: raise(1)", rack.raise(1), -1);
        Checks.same("new: foresee coins", rack.foresee(200, 0), 400);
        Checks.same("new: foresee sold", rack.foresee(200, 1), 0);
        Checks.same("new: foresee for sale", rack.foresee(200, 2), 0);
        Checks.sameDouble("new: fetched", rack.fetched(), 0.0);
        Checks.refuses(rack, "new: customer(0, 0)", Checks.INDEX, () -> rack.customer(0, 0));
        Checks.refuses(rack, "new: ticket(0, 0)", Checks.INDEX, () -> rack.ticket(0, 0));
        for (int weekday = 0; weekday < 7; weekday++) {
            Checks.same("new: the buyer of " + weekday, rack.setBuyer(weekday, -1, 0), -1);
        }
        Checks.same("new: pass(200)", rack.pass(200), 0);
        Checks.same("new: the day then", rack.count(0), 200);
    }

    private static void newObjectsAreApart() {
        PawnRack one = new PawnRack();
        PawnRack other = new PawnRack();
        long before = Checks.fingerprint(other);
        one.come(100);
        one.pledge(0, 1, 100, 5);
        one.setBuyer(1, 1, 100);
        one.pass(10);
        Checks.same("another object is left alone", Checks.fingerprint(other), before);
    }

    private static void come() {
        PawnRack rack = new PawnRack();
        for (int i = 0; i < 10; i++) {
            int coins = i == 0 ? 0 : i == 9 ? 2000 : 7 * i;
            Checks.same("come " + i, rack.come(coins), i);
            Checks.same("coins of " + i, rack.customer(i, 0), coins);
            Checks.same("trust of " + i, rack.customer(i, 1), 5);
            Checks.same("customers", rack.count(2), i + 1);
        }
        Checks.same("coins of the broker", rack.count(1), 400);
        Checks.refuses(rack, "come as the 11th", Checks.STATE, () -> rack.come(5));
        Checks.refuses(rack, "come as the 11th with -1", Checks.ARGUMENT, () -> rack.come(-1));
        Checks.refuses(rack, "come as the 11th with 2001", Checks.ARGUMENT, () -> rack.come(2001));
    }

    private static void comeRefuses() {
        PawnRack rack = new PawnRack();
        for (int coins : new int[] {-1, 2001, Integer.MIN_VALUE, Integer.MAX_VALUE}) {
            Checks.refuses(rack, "come(" + coins + ")", Checks.ARGUMENT, () -> rack.come(coins));
        }
    }

    /** The last customer of all is one like the others. */
    private static void theTenthCustomer() {
        PawnRack rack = Checks.rackWith(1, 2, 3, 4, 5, 6, 7, 8, 9);
        Checks.refuses(rack, "the tenth ahead of the coming", Checks.INDEX, () -> rack.customer(9, 0));
        Checks.same("the tenth comes", rack.come(10), 9);
        Checks.same("earn(9, 5)", rack.earn(9, 5), 15);
        Checks.same("the tenth leaves a thing", rack.pledge(9, 0, 100, 1), 0);
        Checks.same("its customer", rack.ticket(0, 0), 9);
        Checks.same("best(9)", rack.best(9), 0);
        Checks.same("most(9)", rack.most(9), 1);
        Checks.same("renewed", rack.renew(0), 3);
        Checks.same("fetched", rack.fetch(0), 63);
        tells(rack, 9, 15 + 60 - 3 - 63, 6, 0, 0, 1);
        tells(rack, 8, 9, 5, 0, 0, 0);
    }

    private static void earn() {
        PawnRack rack = new PawnRack();
        rack.come(30);
        rack.come(2000);
        Checks.same("earn(0, 1)", rack.earn(0, 1), 31);
        Checks.same("earn(0, 1000)", rack.earn(0, 1000), 1031);
        Checks.same("earn(1, 1000)", rack.earn(1, 1000), 3000);
        Checks.same("earn(1, 1000) again", rack.earn(1, 1000), 4000);
        Checks.same("coins of 0", rack.customer(0, 0), 1031);
        Checks.same("coins of 1", rack.customer(1, 0), 4000);
        Checks.same("the broker earns nothing", rack.count(1), 400);
    }

    private static void earnRefuses() {
        PawnRack rack = new PawnRack();
        Checks.refuses(rack, "earn without customers", Checks.INDEX, () -> rack.earn(0, 1));
        rack.come(30);
        for (int coins : new int[] {0, -1, 1001, Integer.MIN_VALUE, Integer.MAX_VALUE}) {
            Checks.refuses(rack, "earn(0, " + coins + ")", Checks.ARGUMENT, () -> rack.earn(0, coins));
        }
        for (int customer : new int[] {-1, 1, 10, Integer.MIN_VALUE, Integer.MAX_VALUE}) {
            Checks.refuses(rack, "earn(" + customer + ", 1)", Checks.INDEX, () -> rack.earn(customer, 1));
            Checks.refuses(rack, "earn(" + customer + ", 0)", Checks.INDEX, () -> rack.earn(customer, 0));
        }
    }

    private static void setBuyer() {
        PawnRack rack = new PawnRack();
        long none = rack.digest();
        for (int weekday = 0; weekday < 7; weekday++) {
            Checks.same("first buyer of " + weekday, rack.setBuyer(weekday, weekday % 5, 500), -1);
        }
        for (int weekday = 0; weekday < 7; weekday++) {
            Checks.same("second buyer of " + weekday, rack.setBuyer(weekday, 4, 0), weekday % 5);
        }
        for (int weekday = 0; weekday < 7; weekday++) {
            Checks.same("no buyer on " + weekday, rack.setBuyer(weekday, -1, 77), 4);
        }
        Checks.same("the digest has no purse without a buyer", rack.digest(), none);
        Checks.same("none before", rack.setBuyer(3, 2, 10), -1);
        long ten = rack.digest();
        Checks.same("same kind, another purse", rack.setBuyer(3, 2, 11), 2);
        // On an empty rack six numbers follow the purse of weekday 3, those of 4, 5 and 6.
        Checks.same("the purse is in the digest", rack.digest() - ten, 31L * 31 * 31 * 31 * 31 * 31);
    }

    private static void setBuyerRefuses() {
        PawnRack rack = new PawnRack();
        rack.setBuyer(0, 3, 100);
        for (int weekday : new int[] {-1, 7, Integer.MIN_VALUE, Integer.MAX_VALUE}) {
            Checks.refuses(rack, "setBuyer(" + weekday + ", 0, 0)", Checks.INDEX, () -> rack.setBuyer(weekday, 0, 0));
            Checks.refuses(rack, "setBuyer(" + weekday + ", 9, 900)", Checks.INDEX, () -> rack.setBuyer(weekday, 9, 900));
        }
        for (int kind : new int[] {-2, 5, Integer.MIN_VALUE, Integer.MAX_VALUE}) {
            Checks.refuses(rack, "setBuyer(0, " + kind + ", 0)", Checks.ARGUMENT, () -> rack.setBuyer(0, kind, 0));
        }
        for (int purse : new int[] {-1, 501, Integer.MIN_VALUE, Integer.MAX_VALUE}) {
            Checks.refuses(rack, "setBuyer(0, 0, " + purse + ")", Checks.ARGUMENT, () -> rack.setBuyer(0, 0, purse));
            Checks.refuses(rack, "setBuyer(0, -1, " + purse + ")", Checks.ARGUMENT, () -> rack.setBuyer(0, -1, purse));
        }
        Checks.same("the buyer is still there", rack.setBuyer(0, -1, 0), 3);
    }

    private static void customer() {
        PawnRack rack = new PawnRack();
        rack.come(50);
        rack.come(60);
        rack.pledge(0, 0, 100, 1);
        rack.pledge(1, 0, 50, 1);
        rack.pledge(0, 0, 40, 1);
        rack.pledge(0, 0, 10, 1);
        tells(rack, 0, 50 + 60 + 24 + 6, 5, 3, 63 + 25 + 7, 0);
        tells(rack, 1, 60 + 30, 5, 1, 31, 0);
        rack.pass(30);
        tells(rack, 0, 140, 5, 3, 66 + 26 + 8, 0);
        rack.fetch(2);
        rack.fetch(3);
        tells(rack, 0, 140 - 26 - 8, 7, 1, 66, 2);
        tells(rack, 1, 90, 5, 1, 32, 0);
        rack.pass(32);
        tells(rack, 0, 106, 5, 0, 0, 2);
        tells(rack, 1, 90, 3, 0, 0, 0);
    }

    private static void customerWithoutTickets() {
        PawnRack rack = Checks.rackWith(0, 7);
        rack.pledge(1, 0, 10, 1);
        tells(rack, 0, 0, 5, 0, 0, 0);
        rack.earn(0, 12);
        tells(rack, 0, 12, 5, 0, 0, 0);
        tells(rack, 1, 13, 5, 1, 7, 0);
    }

    private static void tells(PawnRack rack, int customer, int... due) {
        for (int what = 0; what < due.length; what++) {
            Checks.same("customer(" + customer + ", " + what + ")", rack.customer(customer, what), due[what]);
        }
    }

    private static void customerRefuses() {
        PawnRack rack = new PawnRack();
        rack.come(50);
        for (int number : new int[] {-1, 1, 10, Integer.MIN_VALUE, Integer.MAX_VALUE}) {
            Checks.refuses(rack, "customer(" + number + ", 0)", Checks.INDEX, () -> rack.customer(number, 0));
        }
        for (int what : new int[] {-1, 5, Integer.MIN_VALUE, Integer.MAX_VALUE}) {
            Checks.refuses(rack, "customer(0, " + what + ")", Checks.INDEX, () -> rack.customer(0, what));
        }
    }
}
