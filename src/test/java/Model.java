import java.util.ArrayList;
import java.util.Arrays;
import java.util.List;

/**
 * The document once more, written the slow way and unlike the program (places are worked out
 * from the things that lie there, sums from tables of all sums, the future from a copy of it
 * all), to compare random runs of calls with.
 */
final class Model {
    static final class Thing {
        int customer, kind, value, width, loan, begun, due, renewals, price;
        String state = "held";
        int shelf, place;

        Thing copy() {
            Thing t = new Thing();
            t.customer = customer;
            t.kind = kind;
            t.value = value;
            t.width = width;
            t.loan = loan;
            t.begun = begun;
            t.due = due;
            t.renewals = renewals;
            t.price = price;
            t.state = state;
            t.shelf = shelf;
            t.place = place;
            return t;
        }

        boolean lies() {
            return state.equals("held") || state.equals("for sale");
        }
    }

    private static final List<String> STATES = List.of("held", "fetched", "for sale", "sold");

    int day = 0;
    int coins = 400;
    int interest = 0;
    List<int[]> customers = new ArrayList<>();
    List<Thing> things = new ArrayList<>();
    int[][] buyers = {{-1, 0}, {-1, 0}, {-1, 0}, {-1, 0}, {-1, 0}, {-1, 0}, {-1, 0}};

    Model copy() {
        Model m = new Model();
        m.day = day;
        m.coins = coins;
        m.interest = interest;
        for (int[] c : customers) {
            m.customers.add(c.clone());
        }
        for (Thing t : things) {
            m.things.add(t.copy());
        }
        for (int i = 0; i < 7; i++) {
            m.buyers[i] = buyers[i].clone();
        }
        return m;
    }

    private static void index(boolean bad) {
        if (bad) {
            throw new IndexOutOfBoundsException();
        }
    }

    private static void argument(boolean bad) {
        if (bad) {
            throw new IllegalArgumentException();
        }
    }

    private static void state(boolean bad) {
        if (bad) {
            throw new IllegalStateException();
        }
    }

    private boolean noCustomer(int c) {
        return c < 0 || c >= customers.size();
    }

    private boolean noTicket(int t) {
        return t < 0 || t >= things.size();
    }

    int come(int c) {
        argument(c < 0 || c > 2000);
        state(customers.size() == 10);
        customers.add(new int[] {c, 5});
        return customers.size() - 1;
    }

    int earn(int c, int more) {
        index(noCustomer(c));
        argument(more < 1 || more > 1000);
        return customers.get(c)[0] += more;
    }

    int setBuyer(int weekday, int kind, int purse) {
        index(weekday < 0 || weekday > 6);
        argument(kind < -1 || kind > 4 || purse < 0 || purse > 500);
        int before = buyers[weekday][0];
        buyers[weekday] = kind == -1 ? new int[] {-1, 0} : new int[] {kind, purse};
        return before;
    }

    int customer(int c, int what) {
        index(noCustomer(c) || what < 0 || what > 4);
        if (what < 2) {
            return customers.get(c)[what];
        }
        int held = 0, owed = 0, fetched = 0;
        for (int i = 0; i < things.size(); i++) {
            if (things.get(i).customer == c) {
                held += things.get(i).state.equals("held") ? 1 : 0;
                owed += owes(i);
                fetched += things.get(i).state.equals("fetched") ? 1 : 0;
            }
        }
        return what == 2 ? held : what == 3 ? owed : fetched;
    }

    int pledge(int c, int kind, int value, int width) {
        index(noCustomer(c));
        argument(kind < 0 || kind > 4 || value < 1 || value > 500 || width < 1 || width > 10);
        int loan = value * (40 + 4 * customers.get(c)[1]) / 100;
        loan = loan < 1 ? 1 : loan;
        int spot = room(width);
        state(things.size() == 40 || coins < loan || spot == -1);
        Thing t = new Thing();
        t.customer = c;
        t.kind = kind;
        t.value = value;
        t.width = width;
        t.loan = loan;
        t.begun = day;
        t.due = day + 60;
        t.shelf = spot / 100;
        t.place = spot % 100;
        things.add(t);
        coins -= loan;
        customers.get(c)[0] += loan;
        return things.size() - 1;
    }

    int ticket(int n, int what) {
        index(noTicket(n) || what < 0 || what > 10);
        Thing t = things.get(n);
        int[] all = {t.customer, t.kind, t.value, t.width, t.loan, t.due, STATES.indexOf(t.state),
            t.lies() ? t.shelf : -1, t.lies() ? t.place : -1, t.price, t.renewals};
        return all[what];
    }

    private int interest(Thing t) {
        int each = t.loan * 5 / 100 < 1 ? 1 : t.loan * 5 / 100;
        int all = 0;
        for (int d = t.begun; d <= day; d += 30) {
            all += each;
        }
        return all;
    }

    int owes(int n) {
        index(noTicket(n));
        Thing t = things.get(n);
        return t.state.equals("held") ? t.loan + interest(t) : 0;
    }

    int renew(int n) {
        index(noTicket(n));
        Thing t = things.get(n);
        int pay = interest(t);
        state(!t.state.equals("held") || t.renewals == 3 || customers.get(t.customer)[0] < pay);
        customers.get(t.customer)[0] -= pay;
        coins += pay;
        interest += pay;
        t.renewals++;
        t.begun = day;
        t.due = day + 60;
        return pay;
    }

    int fetch(int n) {
        index(noTicket(n));
        Thing t = things.get(n);
        int pay = owes(n);
        int[] c = customers.get(t.customer);
        state(!t.state.equals("held") || c[0] < pay);
        c[0] -= pay;
        coins += pay;
        interest += pay - t.loan;
        if (c[1] < 10) {
            c[1]++;
        }
        t.state = "fetched";
        return pay;
    }

    int at(int shelf, int place) {
        index(shelf < 0 || shelf > 2 || place < 0 || place >= 10 + 10 * shelf);
        for (int i = 0; i < things.size(); i++) {
            Thing t = things.get(i);
            if (t.lies() && t.shelf == shelf && place >= t.place && place < t.place + t.width) {
                return i;
            }
        }
        return -1;
    }

    int room(int width) {
        argument(width < 1 || width > 10);
        for (int shelf = 0; shelf < 3; shelf++) {
            for (int from = 0; from + width <= 10 + 10 * shelf; from++) {
                if (isFree(shelf, from, width)) {
                    return 100 * shelf + from;
                }
            }
        }
        return -1;
    }

    private boolean isFree(int shelf, int from, int width) {
        for (Thing t : things) {
            boolean apart = t.place + t.width <= from || from + width <= t.place;
            if (t.lies() && t.shelf == shelf && !apart) {
                return false;
            }
        }
        return true;
    }

    int tidy() {
        int moved = 0;
        for (int shelf = 0; shelf < 3; shelf++) {
            List<Thing> here = new ArrayList<>();
            for (Thing t : things) {
                if (t.lies() && t.shelf == shelf) {
                    here.add(t);
                }
            }
            here.sort((a, b) -> Integer.compare(a.place, b.place));
            int next = 0;
            for (Thing t : here) {
                moved += t.place == next ? 0 : 1;
                t.place = next;
                next += t.width;
            }
        }
        return moved;
    }

    int pass(int days) {
        argument(days < 1 || days > 200);
        int sold = 0;
        for (int i = 0; i < days; i++) {
            sold += goDay();
        }
        return sold;
    }

    private int goDay() {
        List<Thing> fresh = new ArrayList<>();
        for (Thing t : things) {
            if (t.state.equals("held") && t.due < day) {
                t.state = "for sale";
                t.price = t.value;
                int[] c = customers.get(t.customer);
                c[1] = c[1] < 2 ? 0 : c[1] - 2;
                fresh.add(t);
            }
        }
        for (Thing t : things) {
            if (t.state.equals("for sale") && !fresh.contains(t)) {
                t.price -= t.value / 20;
                if (t.price < t.value * 3 / 10) {
                    t.price = t.value * 3 / 10;
                }
            }
        }
        int[] buyer = buyers[day % 7];
        Thing dearest = null;
        for (Thing t : things) {
            boolean wanted = t.state.equals("for sale") && t.kind == buyer[0] && t.price <= buyer[1];
            if (wanted && (dearest == null || t.price > dearest.price)) {
                dearest = t;
            }
        }
        day++;
        if (dearest == null) {
            return 0;
        }
        dearest.state = "sold";
        coins += dearest.price;
        return 1;
    }

    private int in(String state) {
        int n = 0;
        for (Thing t : things) {
            n += t.state.equals(state) ? 1 : 0;
        }
        return n;
    }

    int count(int what) {
        index(what < 0 || what > 10);
        int taken = 0, loans = 0;
        for (Thing t : things) {
            taken += t.lies() ? t.width : 0;
            loans += t.state.equals("held") ? t.loan : 0;
        }
        int[] all = {day, coins, customers.size(), things.size(), in("held"), in("fetched"), in("for sale"),
            in("sold"), taken, loans, interest};
        return all[what];
    }

    int foresee(int days, int what) {
        argument(days < 1 || days > 200);
        index(what < 0 || what > 2);
        Model then = copy();
        int sold = then.pass(days);
        return what == 0 ? then.coins : what == 1 ? sold : then.in("for sale");
    }

    /** From a table: for each number of things the highest sum of so many. */
    int raise(int want) {
        argument(want < 1);
        int[] highest = new int[41];
        Arrays.fill(highest, -1);
        highest[0] = 0;
        for (Thing t : things) {
            for (int n = 39; t.state.equals("for sale") && n >= 0; n--) {
                if (highest[n] >= 0 && highest[n] + t.price > highest[n + 1]) {
                    highest[n + 1] = highest[n] + t.price;
                }
            }
        }
        for (int n = 1; n <= 40; n++) {
            if (highest[n] >= want) {
                return n;
            }
        }
        return -1;
    }

    int best(int c) {
        index(noCustomer(c));
        int best = -1;
        for (int i = things.size() - 1; i >= 0; i--) {
            Thing t = things.get(i);
            if (t.customer == c && t.state.equals("held") && owes(i) <= customers.get(c)[0]
                && (best < 0 || t.value - owes(i) >= things.get(best).value - owes(best))) {
                best = i;
            }
        }
        return best;
    }

    /** From a table: for each number of tickets the lowest sum of so many. */
    int most(int c) {
        index(noCustomer(c));
        int[] lowest = new int[41];
        Arrays.fill(lowest, Integer.MAX_VALUE);
        lowest[0] = 0;
        for (int i = 0; i < things.size(); i++) {
            boolean own = things.get(i).customer == c && things.get(i).state.equals("held");
            for (int n = 39; own && n >= 0; n--) {
                if (lowest[n] != Integer.MAX_VALUE) {
                    lowest[n + 1] = Math.min(lowest[n + 1], lowest[n] + owes(i));
                }
            }
        }
        int most = 0;
        for (int n = 0; n <= 40; n++) {
            most = lowest[n] <= customers.get(c)[0] ? n : most;
        }
        return most;
    }

    double fetched() {
        int ended = things.size() - in("held");
        return ended == 0 ? 0 : (double) in("fetched") / ended;
    }

    long digest() {
        List<Integer> told = new ArrayList<>();
        for (int what = 0; what <= 10; what++) {
            told.add(count(what));
        }
        for (int[] buyer : buyers) {
            told.add(buyer[0]);
            told.add(buyer[1]);
        }
        for (int c = 0; c < customers.size(); c++) {
            for (int what = 0; what <= 4; what++) {
                told.add(customer(c, what));
            }
        }
        for (int t = 0; t < things.size(); t++) {
            for (int what = 0; what <= 10; what++) {
                told.add(ticket(t, what));
            }
            told.add(owes(t));
        }
        long d = 719;
        for (int x : told) {
            d = d * 31 + x;
        }
        return d;
    }
}
