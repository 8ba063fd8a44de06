/** Promise 15: sessions. */
public final class Promise15Test {
    private static final Check CHECK = new Check();

    public static void main(String[] args) {
        asManyAsHaveBegun();
        theEndedAreThere();
        fortyAtTheMost();
        CHECK.end();
    }

    private static void asManyAsHaveBegun() {
        CHECK.sentence("Promise 15", "How many sessions there are.");
        PakeDesk desk = new PakeDesk(1);
        CHECK.due(0, "sessions() at first", desk::sessions);
        desk.client(0, 0, 1, 1);
        CHECK.due(1, "sessions()", desk::sessions);
        desk.server(7, 1, 1);
        CHECK.due(2, "sessions()", desk::sessions);
        CHECK.due(Check.WRONG_ARGUMENT, "client(8)", () -> desk.client(8, 0, 1, 1));
        CHECK.due(Check.WRONG_ARGUMENT, "server(0, 2)", () -> desk.server(0, 2, 1));
        CHECK.due(2, "sessions() after refusals", desk::sessions);
    }

    private static void theEndedAreThere() {
        CHECK.sentence("Promise 15", "How many sessions there are.");
        PakeDesk desk = new PakeDesk(1);
        desk.register(4, 1, 5, 6);
        Talk.whole(desk, desk.client(4, 1, 5, 1), desk.server(4, 1, 2));
        CHECK.due(2, "sessions() with finished ones", desk::sessions);
        Talk.failures(desk, 4, 3);
        CHECK.due(Check.WRONG_STATE, "server(4) of one blocked", () -> desk.server(4, 0, 1));
        CHECK.due(5, "sessions() with failed ones", desk::sessions);
        desk.client(4, 1, 5, 1);
        desk.tick(100);
        CHECK.due(6, "sessions() with expired ones", desk::sessions);
    }

    private static void fortyAtTheMost() {
        CHECK.sentence("Promise 15", "How many sessions there are.");
        PakeDesk desk = new PakeDesk(1);
        Talk.fill(desk, 39);
        CHECK.due(39, "sessions()", desk::sessions);
        desk.server(0, 0, 1);
        CHECK.due(40, "sessions()", desk::sessions);
        CHECK.due(Check.WRONG_STATE, "client", () -> desk.client(0, 0, 1, 1));
        CHECK.due(Check.WRONG_STATE, "server", () -> desk.server(0, 0, 1));
        CHECK.due(40, "sessions() at the most", desk::sessions);
    }
}
