/** Promise 12: state. */
public final class Promise12Test {
    private static final Check CHECK = new Check();

    public static void main(String[] args) {
        wholeExchange(0);
        wholeExchange(1);
        expiry();
        theEndedDoNotExpire();
        noSuchSession();
        CHECK.end();
    }

    private static void wholeExchange(int way) {
        CHECK.sentence("Promise 12", "The state of a session;");
        PakeDesk desk = new PakeDesk(2);
        desk.register(3, way, 5, 6);
        int client = desk.client(3, way, 5, 1);
        int server = desk.server(3, way, 2);
        expect(desk, client, 0, server, 0);
        desk.pass(client, server, 0);
        expect(desk, client, 0, server, 1);
        desk.pass(server, client, 0);
        expect(desk, client, 1, server, 1);
        desk.pass(client, server, 0);
        expect(desk, client, 1, server, 2);
        desk.pass(server, client, 0);
        expect(desk, client, 2, server, 2);
    }

    private static void expect(PakeDesk desk, int client, int ofClient, int server, int ofServer) {
        CHECK.due(ofClient, "state of the client", () -> desk.state(client));
        CHECK.due(ofServer, "state of the server", () -> desk.state(server));
    }

    private static void expiry() {
        CHECK.sentence("Promise 12", "The state of a session;");
        PakeDesk desk = new PakeDesk(2);
        int client = desk.client(3, 1, 5, 1);
        desk.tick(5);
        int server = desk.server(3, 1, 2);
        desk.tick(14);
        desk.pass(client, server, 0);
        expect(desk, client, 0, server, 1);
        desk.tick(1);
        expect(desk, client, 4, server, 1);
        desk.tick(4);
        expect(desk, client, 4, server, 1);
        desk.tick(1);
        expect(desk, client, 4, server, 4);
        desk.tick(100);
        expect(desk, client, 4, server, 4);
    }

    private static void theEndedDoNotExpire() {
        CHECK.sentence("Promise 12", "The state of a session;");
        PakeDesk desk = new PakeDesk(2);
        desk.register(3, 1, 5, 6);
        int client = desk.client(3, 1, 5, 1);
        int server = desk.server(3, 1, 2);
        Talk.whole(desk, client, server);
        int failed = desk.server(3, 1, 2);
        Check.answer(() -> desk.receive(failed, 0));
        int refused = Talk.serverAtConfirmation(desk, 3, 1);
        Talk.refuse(desk, refused);
        desk.tick(20);
        expect(desk, client, 2, server, 2);
        CHECK.due(3, "failed at X", () -> desk.state(failed));
        CHECK.due(3, "failed at C", () -> desk.state(refused));
    }

    private static void noSuchSession() {
        CHECK.sentence("Promise 12", "NONE if there is none.");
        PakeDesk desk = new PakeDesk(2);
        CHECK.due(-1, "state(0) of none", () -> desk.state(0));
        desk.client(1, 0, 1, 1);
        for (int session : new int[] {-1, 1, 39, 40, Integer.MIN_VALUE, Integer.MAX_VALUE}) {
            CHECK.due(-1, "state " + session, () -> desk.state(session));
        }
        Talk.fill(desk, 39);
        CHECK.due(-1, "state(40) of forty", () -> desk.state(40));
        CHECK.due(0, "state(39) of forty", () -> desk.state(39));
        CHECK.due(0, "state(0) of forty", () -> desk.state(0));
    }
}
