/** Promises 11 to 13: at, room, tidy. */
public final class RackTest {
    public static void main(String[] args) {
        at();
        atRefuses();
        room();
        roomRefuses();
        roomAfterASale();
        tidy();
        tidyOverlapping();
        tidyKeepsShelves();
        tidyFull();
        tidyFromTheLastPlace();
        tidyThingsForSale();
        Checks.end();
    }

    private static PawnRack rackWithThings(int... widths) {
        PawnRack rack = new PawnRack();
        rack.come(2000);
        for (int width : widths) {
            rack.pledge(0, 0, 1, width);
        }
        return rack;
    }

    /** A sign for each place: the number of the ticket there, a point for none. */
    private static void shows(String when, PawnRack rack, String... shelves) {
        for (int shelf = 0; shelf < shelves.length; shelf++) {
            for (int place = 0; place < 10 + 10 * shelf; place++) {
                char sign = place < shelves[shelf].length() ? shelves[shelf].charAt(place) : '.';
                int due = sign == '.' ? -1 : sign - '0';
                Checks.same("at(" + shelf + ", " + place + ") " + when, rack.at(shelf, place), due);
            }
        }
    }

    private static void at() {
        PawnRack rack = rackWithThings(4, 3, 4, 3, 10, 10, 9, 1);
        shows("at first", rack, "0000111333", "222244444444447", "5555555555666666666");
        rack.fetch(1);
        rack.fetch(4);
        Checks.same("free again", rack.at(0, 5), -1);
        Checks.same("free again on shelf 1", rack.at(1, 4), -1);
        Checks.same("nothing moved", rack.at(0, 7), 3);
    }

    private static void atRefuses() {
        PawnRack rack = rackWithThings(10, 10, 10, 10, 10, 10);
        int[][] last = {{0, 9, 0}, {1, 19, 2}, {2, 29, 5}};
        for (int[] edge : last) {
            int shelf = edge[0];
            Checks.same("at the last place of " + shelf, rack.at(shelf, edge[1]), edge[2]);
            for (int place : new int[] {-1, edge[1] + 1, Integer.MIN_VALUE, Integer.MAX_VALUE}) {
                Checks.refuses(rack, "at(" + shelf + ", " + place + ")", Checks.INDEX, () -> rack.at(shelf, place));
            }
        }
        for (int shelf : new int[] {-1, 3, Integer.MIN_VALUE, Integer.MAX_VALUE}) {
            Checks.refuses(rack, "at(" + shelf + ", 0)", Checks.INDEX, () -> rack.at(shelf, 0));
        }
    }

    private static void room() {
        PawnRack rack = rackWithThings(3, 2, 3, 2, 8, 2, 6);
        shows("filled", rack, "0001122233", "4444444455666666");
        Checks.same("behind the last", rack.room(4), 116);
        Checks.same("too wide for shelf 1", rack.room(5), 200);
        rack.fetch(1);
        rack.fetch(3);
        rack.fetch(5);
        Checks.same("one: the leftmost gap", rack.room(1), 3);
        Checks.same("two: the leftmost gap", rack.room(2), 3);
        Checks.same("three: not in the gap of two", rack.room(3), 116);
        Checks.same("five", rack.room(5), 200);
        rack.pledge(0, 0, 1, 1);
        Checks.same("the thing lies at the left end", rack.at(0, 3), 7);
        Checks.same("a gap of one is left", rack.room(1), 4);
        Checks.same("the next gap of two", rack.room(2), 8);
        Checks.same("room lays nothing", rack.count(8), 3 + 3 + 8 + 6 + 1);
        PawnRack full = rackWithThings(10, 10, 10, 10, 10, 9);
        Checks.same("the last place", full.room(1), 229);
        Checks.same("no room for two", full.room(2), -1);
        full.pledge(0, 0, 1, 1);
        Checks.same("no room at all", full.room(1), -1);
        full.fetch(0);
        Checks.same("shelf 0 again", full.room(10), 0);
        PawnRack pieces = rackWithThings(9, 9, 10, 9, 10, 10);
        Checks.same("gaps on two shelves are no gap of two", pieces.room(2), -1);
        Checks.same("the first gap of one", pieces.room(1), 9);
    }

    private static void roomRefuses() {
        PawnRack rack = rackWithThings(3);
        for (int width : new int[] {-1, 0, 11, Integer.MIN_VALUE, Integer.MAX_VALUE}) {
            Checks.refuses(rack, "room(" + width + ")", Checks.ARGUMENT, () -> rack.room(width));
        }
    }

    private static void roomAfterASale() {
        PawnRack rack = rackWithThings(3, 4);
        rack.setBuyer(61 % 7, 0, 1);
        rack.pass(61);
        Checks.same("held things lie", rack.room(10), 100);
        rack.pass(1);
        Checks.same("one is sold", rack.count(7), 1);
        Checks.same("its place is free", rack.room(3), 0);
        Checks.same("a thing for sale lies", rack.room(4), 100);
        shows("after a sale", rack, "...1111");
    }

    private static void tidy() {
        PawnRack rack = rackWithThings(2, 3, 1, 2, 2);
        Checks.same("nothing to move", rack.tidy(), 0);
        rack.fetch(0);
        rack.fetch(2);
        shows("with gaps", rack, "..111.3344");
        Checks.same("three move", rack.tidy(), 3);
        shows("tidied", rack, "1113344");
        Checks.same("the place of 1", rack.ticket(1, 8), 0);
        Checks.same("the place of 3", rack.ticket(3, 8), 3);
        Checks.same("the place of 4", rack.ticket(4, 8), 5);
        Checks.same("nothing more", rack.tidy(), 0);
        rack.fetch(3);
        Checks.same("only one moves", rack.tidy(), 1);
        shows("tidied again", rack, "11144");
        Checks.same("room then", rack.room(5), 5);
        rack.fetch(4);
        Checks.same("a gap on the right moves none", rack.tidy(), 0);
    }

    private static void tidyOverlapping() {
        PawnRack rack = rackWithThings(1, 9, 1, 10, 9);
        shows("a wide thing", rack, "0111111111", "23333333333444444444");
        rack.fetch(0);
        rack.fetch(2);
        Checks.same("three wide things move by one", rack.tidy(), 3);
        shows("a wide thing moved", rack, "111111111", "3333333333444444444");
        Checks.same("its width is as it was", rack.count(8), 28);
    }

    private static void tidyKeepsShelves() {
        PawnRack rack = rackWithThings(6, 5, 4, 10, 5, 10);
        shows("on three shelves", rack, "0000002222", "11111333333333344444", "5555555555");
        rack.fetch(0);
        rack.fetch(1);
        Checks.same("three move", rack.tidy(), 3);
        shows("each on its own shelf, in its order", rack, "2222", "333333333344444", "5555555555");
        Checks.same("the shelf of 4", rack.ticket(4, 7), 1);
    }

    private static void tidyFull() {
        PawnRack rack = rackWithThings(10, 10, 10, 10, 10, 10);
        long before = Checks.fingerprint(rack);
        Checks.same("all places are taken", rack.count(8), 60);
        Checks.same("no thing can move", rack.tidy(), 0);
        Checks.same("nothing is changed", Checks.fingerprint(rack), before);
    }

    private static void tidyFromTheLastPlace() {
        PawnRack rack = rackWithThings(9, 1, 10, 9, 1, 10, 10, 9, 1);
        shows("with things in the last places", rack, "0000000001", "22222222223333333334",
            "555555555566666666667777777778");
        rack.fetch(0);
        rack.fetch(2);
        rack.fetch(3);
        rack.fetch(5);
        rack.fetch(6);
        rack.fetch(7);
        Checks.same("one moves on each shelf", rack.tidy(), 3);
        shows("each in the first place", rack, "1", "4", "8");
    }

    private static void tidyThingsForSale() {
        PawnRack rack = rackWithThings(2, 3, 4, 1);
        rack.fetch(0);
        rack.pass(62);
        Checks.same("three are for sale", rack.count(6), 3);
        Checks.same("what is for sale moves", rack.tidy(), 3);
        shows("for sale, and tidied", rack, "11122223");
        rack.setBuyer(62 % 7, 0, 500);
        rack.pass(1);
        Checks.same("one is sold", rack.ticket(1, 6), 3);
        shows("with the gap of a sale", rack, "...22223");
        Checks.same("two close the gap", rack.tidy(), 2);
        shows("tidied again", rack, "22223");
        Checks.same("what was sold has no place", rack.ticket(1, 8), -1);
    }
}
