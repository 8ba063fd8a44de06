/** Promise 15: sessions. */
public final class Promise15Test {
    public static void main(String[] args) {
        Check check = new Check();
        PakeDesk desk = new PakeDesk(1);
        check.due(0, "sessions() at first", desk::sessions);
        desk.client(0, 0, 1, 1);
        check.due(1, "sessions()", desk::sessions);
        desk.server(7, 1, 1);
        check.due(2, "sessions()", desk::sessions);
        check.due("throws.IllegalArgumentException", "client(8)", () -> desk.client(8, 0, 1, 1));
        check.due("throws.IllegalArgumentException", "server(0, 2)", () -> desk.server(0, 2, 1));
        check.due(2, "sessions() after refusals", desk::sessions);
        for (int i = 0; i < 3; i++) {
            Talk.failure(desk, 4);
        }
        check.due("throws.IllegalStateException", "server(4) of one blocked", () -> desk.server(4, 0, 1));
        check.due(5, "sessions() with failed ones", desk::sessions);
        desk.tick(100);
        check.due(5, "sessions() with expired ones", desk::sessions);
        Talk.fill(desk, 35);
        check.due(40, "sessions()", desk::sessions);
        check.due("throws.IllegalStateException", "client", () -> desk.client(0, 0, 1, 1));
        check.due("throws.IllegalStateException", "server", () -> desk.server(0, 0, 1));
        check.due(40, "sessions() at the most", desk::sessions);
        check.end();
    }
}
