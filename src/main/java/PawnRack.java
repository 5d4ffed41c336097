/** A pawnbroker's rack. */
public final class PawnRack {
    private static final int NONE = -1;

    private static final int MOST_CUSTOMERS = 10;
    private static final int MOST_TICKETS = 40;
    private static final int WEEKDAYS = 7;
    private static final int KINDS = 5;
    private static final int MOST_COINS_AT_COMING = 2000;
    private static final int MOST_COINS_EARNED = 1000;
    private static final int MOST_PURSE = 500;
    private static final int MOST_VALUE = 500;
    private static final int MOST_WIDTH = 10;
    private static final int MOST_DAYS = 200;
    private static final int MOST_RENEWALS = 3;

    private static final int COUNT_WHATS = 11;
    private static final int CUSTOMER_WHATS = 5;
    private static final int TICKET_WHATS = 11;
    private static final int FORESEE_WHATS = 3;

    private static final int HELD = 0;
    private static final int FETCHED = 1;
    private static final int FOR_SALE = 2;
    private static final int SOLD = 3;

    private final Shop shop;
    // What would be is tried out on a second shop and in one row of amounts,
    // both made once, so that no call makes objects of its own.
    private final Shop trial;
    private final int[] amounts;

    /** Creates an empty rack, on the day 0. */
    public PawnRack() {
        shop = new Shop();
        trial = new Shop();
        amounts = new int[MOST_TICKETS];
    }

    // ---- customers and buyers

    /** Lets a new customer come; returns the number. */
    public int come(int coins) throws IllegalArgumentException, IllegalStateException {
        checkArgument(isWithin(coins, 0, MOST_COINS_AT_COMING));
        checkState(shop.customerCount < MOST_CUSTOMERS);
        return shop.addCustomer(coins);
    }

    /** Lets a customer earn coins; returns the coins then. */
    public int earn(int customer, int coins) throws IndexOutOfBoundsException, IllegalArgumentException {
        checkIndex(shop.hasCustomer(customer));
        checkArgument(isWithin(coins, 1, MOST_COINS_EARNED));
        Customer earner = shop.customers[customer];
        earner.coins += coins;
        return earner.coins;
    }

    /** Tells the buyer of a weekday, kind -1 for none; returns the kind before. */
    public int setBuyer(int weekday, int kind, int purse) throws IndexOutOfBoundsException, IllegalArgumentException {
        checkIndex(isWithin(weekday, 0, WEEKDAYS - 1));
        checkArgument(isWithin(kind, NONE, KINDS - 1) && isWithin(purse, 0, MOST_PURSE));
        Buyer buyer = shop.buyers[weekday];
        int before = buyer.kind;
        buyer.want(kind, purse);
        return before;
    }

    /** Tells something of a customer. */
    public int customer(int customer, int what) throws IndexOutOfBoundsException {
        checkIndex(shop.hasCustomer(customer) && isWithin(what, 0, CUSTOMER_WHATS - 1));
        return shop.tellCustomer(customer, what);
    }

    // ---- pledges

    /** A customer leaves a thing as a pledge, and gets the loan; returns the ticket. */
    public int pledge(int customer, int kind, int value, int width) throws IndexOutOfBoundsException, IllegalArgumentException, IllegalStateException {
        checkIndex(shop.hasCustomer(customer));
        checkArgument(isWithin(kind, 0, KINDS - 1) && isWithin(value, 1, MOST_VALUE) && isWithin(width, 1, MOST_WIDTH));
        checkState(shop.ticketCount < MOST_TICKETS);
        checkState(shop.coins >= shop.customers[customer].loanFor(value));
        checkState(shop.rack.spotFor(width) != NONE);
        return shop.addTicket(customer, kind, value, width);
    }

    /** Tells something of a ticket. */
    public int ticket(int ticket, int what) throws IndexOutOfBoundsException {
        checkIndex(shop.hasTicket(ticket) && isWithin(what, 0, TICKET_WHATS - 1));
        return shop.tellTicket(ticket, what);
    }

    /** Tells what has to be paid today to fetch a thing; 0 if it is not held. */
    public int owes(int ticket) throws IndexOutOfBoundsException {
        checkIndex(shop.hasTicket(ticket));
        return shop.tickets[ticket].debt(shop.day);
    }

    /** The customer pays the interest, which begins anew; returns it. */
    public int renew(int ticket) throws IndexOutOfBoundsException, IllegalStateException {
        checkIndex(shop.hasTicket(ticket));
        Ticket renewed = shop.tickets[ticket];
        checkState(renewed.state == HELD && renewed.renewals < MOST_RENEWALS);
        int interest = renewed.interest(shop.day);
        checkState(shop.canPay(renewed.customer, interest));
        shop.takeFrom(renewed.customer, interest, interest);
        renewed.extend(shop.day);
        return interest;
    }

    /** The customer pays what is owed, and fetches the thing; returns what is paid. */
    public int fetch(int ticket) throws IndexOutOfBoundsException, IllegalStateException {
        checkIndex(shop.hasTicket(ticket));
        Ticket redeemed = shop.tickets[ticket];
        checkState(redeemed.state == HELD);
        int debt = redeemed.debt(shop.day);
        checkState(shop.canPay(redeemed.customer, debt));
        shop.takeFrom(redeemed.customer, debt, redeemed.interest(shop.day));
        shop.handOut(ticket);
        return debt;
    }

    // ---- the rack

    /** Tells the ticket of the thing at a place, -1 for none. */
    public int at(int shelf, int place) throws IndexOutOfBoundsException {
        checkIndex(shop.rack.hasPlace(shelf, place));
        return shop.rack.shelves[shelf].places[place];
    }

    /** Tells 100 * the shelf and the place where a thing would be laid; -1 without room. */
    public int room(int width) throws IllegalArgumentException {
        checkArgument(isWithin(width, 1, MOST_WIDTH));
        return shop.rack.spotFor(width);
    }

    /** Moves all things to the left; returns how many have another place then. */
    public int tidy() {
        return shop.rack.pushLeft();
    }

    // ---- days

    /** Lets days go by; returns how many things were sold in them. */
    public int pass(int days) throws IllegalArgumentException {
        checkArgument(isWithin(days, 1, MOST_DAYS));
        return shop.goOn(days);
    }

    /** Tells something of the whole shop. */
    public int count(int what) throws IndexOutOfBoundsException {
        checkIndex(isWithin(what, 0, COUNT_WHATS - 1));
        return shop.tellCount(what);
    }

    // ---- what would be

    /** Tells what comes of the next days if nothing is done. */
    public int foresee(int days, int what) throws IllegalArgumentException, IndexOutOfBoundsException {
        checkArgument(isWithin(days, 1, MOST_DAYS));
        checkIndex(isWithin(what, 0, FORESEE_WHATS - 1));
        trial.copyFrom(shop);
        int sold = trial.goOn(days);
        switch (what) {
            case 0: return trial.coins;
            case 1: return sold;
            default: return trial.ticketsIn(FOR_SALE);
        }
    }

    /** Tells the fewest things for sale that cost so many coins together; -1 if all do not. */
    public int raise(int coins) throws IllegalArgumentException {
        checkArgument(coins >= 1);
        int things = shop.putPrices(amounts);
        sortUp(amounts, things);
        int sum = 0;
        for (int i = things - 1; i >= 0; i--) {
            sum += amounts[i];
            if (sum >= coins) {
                return things - i;
            }
        }
        return NONE;
    }

    /** Tells the ticket that a customer had best fetch, -1 without one. */
    public int best(int customer) throws IndexOutOfBoundsException {
        checkIndex(shop.hasCustomer(customer));
        return shop.bestFor(customer);
    }

    /** Tells how many tickets a customer could fetch today. */
    public int most(int customer) throws IndexOutOfBoundsException {
        checkIndex(shop.hasCustomer(customer));
        int things = shop.putDebts(customer, amounts);
        sortUp(amounts, things);
        int left = shop.customers[customer].coins;
        int paid = 0;
        while (paid < things && amounts[paid] <= left) {
            left -= amounts[paid];
            paid++;
        }
        return paid;
    }

    /** Tells which part of the tickets that came to an end was fetched. */
    public double fetched() {
        int fetches = shop.ticketsIn(FETCHED);
        int ended = fetches + shop.ticketsIn(FOR_SALE) + shop.ticketsIn(SOLD);
        return ended == 0 ? 0.0 : (double) fetches / ended;
    }

    /** Computes a checksum of all that can be told. */
    public long digest() {
        long d = 719;
        for (int what = 0; what < COUNT_WHATS; what++) {
            d = d * 31 + shop.tellCount(what);
        }
        for (int weekday = 0; weekday < WEEKDAYS; weekday++) {
            d = d * 31 + shop.buyers[weekday].kind;
            d = d * 31 + shop.buyers[weekday].purse;
        }
        for (int customer = 0; customer < shop.customerCount; customer++) {
            for (int what = 0; what < CUSTOMER_WHATS; what++) {
                d = d * 31 + shop.tellCustomer(customer, what);
            }
        }
        for (int ticket = 0; ticket < shop.ticketCount; ticket++) {
            for (int what = 0; what < TICKET_WHATS; what++) {
                d = d * 31 + shop.tellTicket(ticket, what);
            }
            d = d * 31 + shop.tickets[ticket].debt(shop.day);
        }
        return d;
    }

    // ---- helpers

    private static boolean isWithin(int number, int least, int most) {
        return number >= least && number <= most;
    }

    private static void checkIndex(boolean good) {
        if (!good) {
            throw new IndexOutOfBoundsException("no such number");
        }
    }

    private static void checkArgument(boolean good) {
        if (!good) {
            throw new IllegalArgumentException("not in the range");
        }
    }

    private static void checkState(boolean good) {
        if (!good) {
            throw new IllegalStateException("not possible now");
        }
    }

    /** Sorts the first numbers of a row, the smallest first. */
    private static void sortUp(int[] row, int count) {
        for (int i = 1; i < count; i++) {
            int number = row[i];
            int to = i;
            while (to > 0 && row[to - 1] > number) {
                row[to] = row[to - 1];
                to--;
            }
            row[to] = number;
        }
    }

    private static final class Customer {
        private static final int FIRST_TRUST = 5;
        private static final int MOST_TRUST = 10;

        int coins;
        int trust;

        void begin(int firstCoins) {
            coins = firstCoins;
            trust = FIRST_TRUST;
        }

        int loanFor(int value) {
            return Math.max(1, value * (40 + 4 * trust) / 100);
        }

        void changeTrust(int by) {
            trust = Math.max(0, Math.min(MOST_TRUST, trust + by));
        }

        void copyFrom(Customer other) {
            coins = other.coins;
            trust = other.trust;
        }
    }

    private static final class Buyer {
        int kind = NONE;
        int purse;

        /** A weekday without a buyer has the purse 0, whatever purse was told. */
        void want(int newKind, int newPurse) {
            kind = newKind;
            purse = newKind == NONE ? 0 : newPurse;
        }

        boolean takes(Ticket ticket) {
            return ticket.state == FOR_SALE && ticket.kind == kind && ticket.price <= purse;
        }
    }

    private static final class Ticket {
        private static final int DAYS_TO_DUE = 60;
        private static final int DAYS_OF_INTEREST = 30;

        int customer;
        int kind;
        int value;
        int width;
        int loan;
        int interestSince;
        int due;
        int state;
        int price;
        int renewals;

        void describe(int newCustomer, int newKind, int newValue, int newWidth) {
            customer = newCustomer;
            kind = newKind;
            value = newValue;
            width = newWidth;
        }

        void lend(int newLoan, int day) {
            loan = newLoan;
            interestSince = day;
            due = day + DAYS_TO_DUE;
            state = HELD;
            price = 0;
            renewals = 0;
        }

        void extend(int day) {
            interestSince = day;
            due = day + DAYS_TO_DUE;
            renewals++;
        }

        int interest(int day) {
            int begun = (day - interestSince) / DAYS_OF_INTEREST + 1;
            return begun * Math.max(1, loan * 5 / 100);
        }

        int debt(int day) {
            return state == HELD ? loan + interest(day) : 0;
        }

        void offer() {
            state = FOR_SALE;
            price = value;
        }

        void cheapen() {
            price = Math.max(price - value / 20, value * 3 / 10);
        }

        void copyFrom(Ticket other) {
            describe(other.customer, other.kind, other.value, other.width);
            loan = other.loan;
            interestSince = other.interestSince;
            due = other.due;
            state = other.state;
            price = other.price;
            renewals = other.renewals;
        }
    }

    private static final class Shelf {
        final int[] places;

        Shelf(int length) {
            places = new int[length];
            for (int place = 0; place < length; place++) {
                places[place] = NONE;
            }
        }

        /** Tells the left end of the leftmost gap that is wide enough, -1 without one. */
        int gapFor(int width) {
            int free = 0;
            for (int place = 0; place < places.length; place++) {
                free = places[place] == NONE ? free + 1 : 0;
                if (free == width) {
                    return place - width + 1;
                }
            }
            return NONE;
        }

        void lay(int ticket, int from, int width) {
            for (int place = 0; place < places.length; place++) {
                if (place >= from && place < from + width) {
                    places[place] = ticket;
                }
            }
        }

        void clear(int ticket) {
            for (int place = 0; place < places.length; place++) {
                if (places[place] == ticket) {
                    places[place] = NONE;
                }
            }
        }

        int leftmostOf(int ticket) {
            for (int place = 0; place < places.length; place++) {
                if (places[place] == ticket) {
                    return place;
                }
            }
            return NONE;
        }

        int taken() {
            int taken = 0;
            for (int place = 0; place < places.length; place++) {
                if (places[place] != NONE) {
                    taken++;
                }
            }
            return taken;
        }

        /** Moves all things to the left; returns how many have moved. */
        int pushLeft() {
            int moved = 0;
            int last = NONE;
            int to = 0;
            for (int from = 0; from < places.length; from++) {
                int ticket = places[from];
                if (ticket != NONE) {
                    if (ticket != last && to < from) {
                        moved++;
                    }
                    last = ticket;
                    places[from] = NONE;
                    places[to] = ticket;
                    to++;
                }
            }
            return moved;
        }

        void copyFrom(Shelf other) {
            for (int place = 0; place < places.length && place < other.places.length; place++) {
                places[place] = other.places[place];
            }
        }
    }

    /** Where a thing lies is kept in the places alone, so that it stands nowhere twice. */
    private static final class Rack {
        final Shelf[] shelves = {new Shelf(10), new Shelf(20), new Shelf(30)};

        boolean hasPlace(int shelf, int place) {
            return isWithin(shelf, 0, shelves.length - 1)
                && isWithin(place, 0, shelves[shelf].places.length - 1);
        }

        int spotFor(int width) {
            for (int shelf = 0; shelf < shelves.length; shelf++) {
                int place = shelves[shelf].gapFor(width);
                if (place != NONE) {
                    return 100 * shelf + place;
                }
            }
            return NONE;
        }

        void lay(int ticket, int width) {
            int spot = spotFor(width);
            int shelf = spot / 100;
            int place = spot % 100;
            if (hasPlace(shelf, place)) {
                shelves[shelf].lay(ticket, place, width);
            }
        }

        void clear(int ticket) {
            for (int shelf = 0; shelf < shelves.length; shelf++) {
                shelves[shelf].clear(ticket);
            }
        }

        int shelfOf(int ticket) {
            for (int shelf = 0; shelf < shelves.length; shelf++) {
                if (shelves[shelf].leftmostOf(ticket) != NONE) {
                    return shelf;
                }
            }
            return NONE;
        }

        int leftmostOf(int ticket) {
            for (int shelf = 0; shelf < shelves.length; shelf++) {
                int place = shelves[shelf].leftmostOf(ticket);
                if (place != NONE) {
                    return place;
                }
            }
            return NONE;
        }

        int taken() {
            int taken = 0;
            for (int shelf = 0; shelf < shelves.length; shelf++) {
                taken += shelves[shelf].taken();
            }
            return taken;
        }

        int pushLeft() {
            int moved = 0;
            for (int shelf = 0; shelf < shelves.length; shelf++) {
                moved += shelves[shelf].pushLeft();
            }
            return moved;
        }

        void copyFrom(Rack other) {
            for (int shelf = 0; shelf < shelves.length; shelf++) {
                shelves[shelf].copyFrom(other.shelves[shelf]);
            }
        }
    }

    /** All that an object holds; its methods take only numbers that the face has looked at. */
    private static final class Shop {
        private static final int FIRST_COINS = 400;
        private static final int TRUST_FOR_FETCHING = 1;
        private static final int TRUST_FOR_LEAVING = -2;

        int day;
        int coins = FIRST_COINS;
        int interestPaid;
        int customerCount;
        int ticketCount;
        final Customer[] customers = new Customer[MOST_CUSTOMERS];
        final Ticket[] tickets = new Ticket[MOST_TICKETS];
        final Buyer[] buyers = new Buyer[WEEKDAYS];
        final Rack rack = new Rack();

        Shop() {
            for (int i = 0; i < MOST_CUSTOMERS; i++) {
                customers[i] = new Customer();
            }
            for (int i = 0; i < MOST_TICKETS; i++) {
                tickets[i] = new Ticket();
            }
            for (int i = 0; i < WEEKDAYS; i++) {
                buyers[i] = new Buyer();
            }
        }

        boolean hasCustomer(int customer) {
            return isWithin(customer, 0, customerCount - 1);
        }

        boolean hasTicket(int ticket) {
            return isWithin(ticket, 0, ticketCount - 1);
        }

        int addCustomer(int firstCoins) {
            int number = customerCount;
            customers[number].begin(firstCoins);
            customerCount++;
            return number;
        }

        int addTicket(int customer, int kind, int value, int width) {
            int number = ticketCount;
            int loan = customers[customer].loanFor(value);
            tickets[number].describe(customer, kind, value, width);
            tickets[number].lend(loan, day);
            rack.lay(number, width);
            coins -= loan;
            customers[customer].coins += loan;
            ticketCount++;
            return number;
        }

        boolean canPay(int customer, int price) {
            return hasCustomer(customer) && customers[customer].coins >= price;
        }

        /** A customer pays the broker; interest is the part of it that is interest. */
        void takeFrom(int customer, int paid, int interest) {
            if (hasCustomer(customer)) {
                customers[customer].coins -= paid;
                coins += paid;
                interestPaid += interest;
            }
        }

        void handOut(int ticket) {
            tickets[ticket].state = FETCHED;
            rack.clear(ticket);
            changeTrust(tickets[ticket].customer, TRUST_FOR_FETCHING);
        }

        void changeTrust(int customer, int by) {
            if (hasCustomer(customer)) {
                customers[customer].changeTrust(by);
            }
        }

        /** Lets days go by; returns how many things were sold in them. */
        int goOn(int days) {
            int sold = 0;
            for (int i = 0; i < days; i++) {
                ageTickets();
                if (sellToBuyer(buyers[Math.floorMod(day, WEEKDAYS)])) {
                    sold++;
                }
                day++;
            }
            return sold;
        }

        // One round for both, new offers and lower prices: no ticket's part in it
        // touches another's, and what is for sale since this day keeps its price.
        private void ageTickets() {
            for (int i = 0; i < ticketCount; i++) {
                Ticket ticket = tickets[i];
                if (ticket.state == FOR_SALE) {
                    ticket.cheapen();
                } else if (ticket.state == HELD && ticket.due < day) {
                    ticket.offer();
                    changeTrust(ticket.customer, TRUST_FOR_LEAVING);
                }
            }
        }

        private boolean sellToBuyer(Buyer buyer) {
            int bought = dearestFor(buyer);
            if (bought == NONE) {
                return false;
            }
            tickets[bought].state = SOLD;
            coins += tickets[bought].price;
            rack.clear(bought);
            return true;
        }

        private int dearestFor(Buyer buyer) {
            int dearest = NONE;
            int highest = NONE;
            for (int i = 0; i < ticketCount; i++) {
                if (buyer.takes(tickets[i]) && tickets[i].price > highest) {
                    dearest = i;
                    highest = tickets[i].price;
                }
            }
            return dearest;
        }

        int bestFor(int customer) {
            int best = NONE;
            int mostGain = 0;
            for (int i = 0; i < ticketCount; i++) {
                int debt = tickets[i].debt(day);
                int gain = tickets[i].value - debt;
                if (isHeldBy(i, customer) && canPay(customer, debt) && (best == NONE || gain > mostGain)) {
                    best = i;
                    mostGain = gain;
                }
            }
            return best;
        }

        private boolean isHeldBy(int ticket, int customer) {
            return tickets[ticket].state == HELD && tickets[ticket].customer == customer;
        }

        /** Puts the prices of all that is for sale into a row; returns how many. */
        int putPrices(int[] row) {
            int put = 0;
            for (int i = 0; i < ticketCount; i++) {
                if (tickets[i].state == FOR_SALE && put < row.length) {
                    row[put] = tickets[i].price;
                    put++;
                }
            }
            return put;
        }

        /** Puts what a customer owes for each ticket held into a row; returns how many. */
        int putDebts(int customer, int[] row) {
            int put = 0;
            for (int i = 0; i < ticketCount; i++) {
                if (isHeldBy(i, customer) && put < row.length) {
                    row[put] = tickets[i].debt(day);
                    put++;
                }
            }
            return put;
        }

        int ticketsIn(int state) {
            int found = 0;
            for (int i = 0; i < ticketCount; i++) {
                if (tickets[i].state == state) {
                    found++;
                }
            }
            return found;
        }

        private int ticketsOf(int customer, int state) {
            int found = 0;
            for (int i = 0; i < ticketCount; i++) {
                if (tickets[i].customer == customer && tickets[i].state == state) {
                    found++;
                }
            }
            return found;
        }

        private int debtOf(int customer) {
            int sum = 0;
            for (int i = 0; i < ticketCount; i++) {
                if (tickets[i].customer == customer) {
                    sum += tickets[i].debt(day);
                }
            }
            return sum;
        }

        private int loansHeld() {
            int sum = 0;
            for (int i = 0; i < ticketCount; i++) {
                if (tickets[i].state == HELD) {
                    sum += tickets[i].loan;
                }
            }
            return sum;
        }

        int tellCount(int what) {
            switch (what) {
                case 0: return day;
                case 1: return coins;
                case 2: return customerCount;
                case 3: return ticketCount;
                case 4: return ticketsIn(HELD);
                case 5: return ticketsIn(FETCHED);
                case 6: return ticketsIn(FOR_SALE);
                case 7: return ticketsIn(SOLD);
                case 8: return rack.taken();
                case 9: return loansHeld();
                default: return interestPaid;
            }
        }

        int tellCustomer(int customer, int what) {
            switch (what) {
                case 0: return customers[customer].coins;
                case 1: return customers[customer].trust;
                case 2: return ticketsOf(customer, HELD);
                case 3: return debtOf(customer);
                default: return ticketsOf(customer, FETCHED);
            }
        }

        int tellTicket(int number, int what) {
            Ticket ticket = tickets[number];
            switch (what) {
                case 0: return ticket.customer;
                case 1: return ticket.kind;
                case 2: return ticket.value;
                case 3: return ticket.width;
                case 4: return ticket.loan;
                case 5: return ticket.due;
                case 6: return ticket.state;
                case 7: return rack.shelfOf(number);
                case 8: return rack.leftmostOf(number);
                case 9: return ticket.price;
                default: return ticket.renewals;
            }
        }

        void copyFrom(Shop other) {
            day = other.day;
            coins = other.coins;
            interestPaid = other.interestPaid;
            customerCount = other.customerCount;
            ticketCount = other.ticketCount;
            for (int i = 0; i < customerCount; i++) {
                customers[i].copyFrom(other.customers[i]);
            }
            for (int i = 0; i < ticketCount; i++) {
                tickets[i].copyFrom(other.tickets[i]);
            }
            for (int i = 0; i < WEEKDAYS; i++) {
                buyers[i].want(other.buyers[i].kind, other.buyers[i].purse);
            }
            rack.copyFrom(other.rack);
        }
    }
}
