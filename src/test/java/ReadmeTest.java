/** The example of README.md: each call with the answer that is written behind it there. */
public final class ReadmeTest {
    public static void main(String[] args) {
        PawnRack rack = new PawnRack();
        int anna = rack.come(30);
        Checks.same("anna", anna, 0);
        int clock = rack.pledge(anna, 2, 200, 6);
        Checks.same("clock", clock, 0);
        int ring = rack.pledge(anna, 0, 40, 1);
        Checks.same("ring", ring, 1);
        Checks.same("setBuyer", rack.setBuyer(1, 0, 35), -1);
        Checks.same("30 days", rack.pass(30), 0);
        Checks.same("owes(clock)", rack.owes(clock), 132);
        Checks.same("renew(ring)", rack.renew(ring), 2);
        Checks.same("fetch(clock)", rack.fetch(clock), 132);
        Checks.same("customer(anna, 0)", rack.customer(anna, 0), 40);
        Checks.same("at(0, 6)", rack.at(0, 6), 1);
        Checks.same("tidy", rack.tidy(), 1);
        Checks.same("room(10)", rack.room(10), 100);
        Checks.same("62 days", rack.pass(62), 0);
        Checks.same("ticket(ring, 6)", rack.ticket(ring, 6), 2);
        Checks.same("foresee(7, 1)", rack.foresee(7, 1), 0);
        Checks.same("8 days", rack.pass(8), 1);
        Checks.same("ticket(ring, 9)", rack.ticket(ring, 9), 24);
        Checks.sameDouble("fetched", rack.fetched(), 0.5);
        Checks.refuses(rack, "fetch(ring)", Checks.STATE, () -> rack.fetch(ring));
        Checks.end();
    }
}
